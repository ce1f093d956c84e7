/** The OPs by their words, and short ways to type programs. */
final class Ops {
    static final int PUSH = 0;
    static final int LOAD = 1;
    static final int STORE = 2;
    static final int POP = 3;
    static final int DUP = 4;
    static final int SWAP = 5;
    static final int ADD = 6;
    static final int SUB = 7;
    static final int MUL = 8;
    static final int DIV = 9;
    static final int REM = 10;
    static final int LESS = 11;
    static final int SAME = 12;
    static final int NEG = 13;
    static final int JUMP = 14;
    static final int IF0 = 15;
    static final int NULL = 16;
    static final int NEW = 17;
    static final int NEWBY = 18;
    static final int GET = 19;
    static final int PUT = 20;
    static final int SGET = 21;
    static final int SPUT = 22;
    static final int CALL = 23;
    static final int DCALL = 24;
    static final int SCALL = 25;
    static final int CAST = 26;
    static final int ISA = 27;
    static final int THROW = 28;
    static final int RETURN = 29;
    static final int PRINT = 30;
    static final int NOP = 31;

    private static final String[] WORDS = {
        "PUSH", "LOAD", "STORE", "POP", "DUP", "SWAP", "ADD", "SUB", "MUL", "DIV", "REM", "LESS", "SAME", "NEG",
        "JUMP", "IF0", "NULL", "NEW", "NEWBY", "GET", "PUT", "SGET", "SPUT", "CALL", "DCALL", "SCALL", "CAST",
        "ISA", "THROW", "RETURN", "PRINT", "NOP"};

    private Ops() {
    }

    static String word(int op) {
        return op == 32 ? "DROP" : op == 33 ? "SDROP" : WORDS[op];
    }

    /** Types "PUSH 1; LOAD 0; ADD; RETURN" behind what the method has. */
    static void type(Shrinkforge x, int method, String text) {
        for (String row : text.split(";")) {
            String[] parts = row.trim().split(" +");
            if (parts[0].isEmpty()) {
                continue;
            }
            int op = opOf(parts[0]);
            int a = parts.length > 1 ? Integer.parseInt(parts[1]) : 0;
            int b = parts.length > 2 ? Integer.parseInt(parts[2]) : 0;
            x.code(method, op, a, b);
        }
    }

    static int opOf(String word) {
        for (int op = 0; op < WORDS.length; op++) {
            if (WORDS[op].equals(word)) {
                return op;
            }
        }
        throw new IllegalArgumentException(word);
    }

    /** A program with C0 and the ENTRY C0.m0/1 with LOCALS 1, which has that code. */
    static Shrinkforge withEntry(String text) {
        Shrinkforge x = new Shrinkforge();
        x.cls(-1, false);
        x.method(0, 0, 1, true, 1);
        x.entry(0, true);
        type(x, 0, text);
        return x;
    }

    /**
     * A program told in rows: "class", "class 0" (its SUPER), "interface", each with "named" or "has 2" behind it;
     * "field 0 3 static"; "method 0 1 2 static entry locals 1: PUSH 1; RETURN" (class, NAME, ARITY);
     * "guard 0 1 2 3" (method, from, to, HANDLER). An ENTRY is told at the end: its code is there then.
     */
    static Shrinkforge program(String... rows) {
        Shrinkforge x = new Shrinkforge();
        for (String row : rows) {
            int colon = row.indexOf(':');
            String code = colon < 0 ? "" : row.substring(colon + 1);
            String head = colon < 0 ? row : row.substring(0, colon);
            addRow(x, head.trim().split(" +"), code);
        }
        return x;
    }

    private static void addRow(Shrinkforge x, String[] words, String code) {
        switch (words[0]) {
            case "class":
                addKind(x, words, false);
                break;
            case "interface":
                addKind(x, words, true);
                break;
            case "field":
                x.field(number(words, 1), number(words, 2), has(words, "static"));
                break;
            case "guard":
                x.guard(number(words, 1), number(words, 2), number(words, 3), number(words, 4));
                break;
            case "method":
                int method = x.method(number(words, 1), number(words, 2), number(words, 3), has(words, "static"),
                        behind(words, "locals", 0));
                type(x, method, code);
                if (has(words, "entry")) {
                    x.entry(method, true);
                }
                break;
            default:
                throw new IllegalArgumentException(words[0]);
        }
    }

    private static void addKind(Shrinkforge x, String[] words, boolean isInterface) {
        boolean isUnder = words.length > 1 && Character.isDigit(words[1].charAt(0));
        int cls = x.cls(isUnder ? number(words, 1) : -1, isInterface);
        for (int at = 1; at < words.length; at++) {
            if (words[at].equals("named")) {
                x.named(cls, true);
            } else if (words[at].equals("has")) {
                x.implement(cls, number(words, at + 1));
            }
        }
    }

    private static int number(String[] words, int at) {
        return Integer.parseInt(words[at]);
    }

    private static boolean has(String[] words, String word) {
        return behind(words, word, -1) != -1;
    }

    /** The number behind the word, 0 if the word is the last one. */
    private static int behind(String[] words, String word, int without) {
        for (int at = 0; at < words.length; at++) {
            if (words[at].equals(word)) {
                boolean isNumber = at + 1 < words.length && Character.isDigit(words[at + 1].charAt(0));
                return isNumber ? number(words, at + 1) : 0;
            }
        }
        return without;
    }

    /** "PUSH 1; " so many times. */
    static String pushes(int many) {
        return "PUSH 1; ".repeat(Math.max(many, 0));
    }

    /** The FOLDED code of a method in the same form. */
    static String foldedCode(Shrinkforge x, int method) {
        StringBuilder text = new StringBuilder();
        int many = x.folded(method);
        for (int place = 0; place < many; place++) {
            text.append(place == 0 ? "" : "; ").append(word(x.ofFolded(method, place, 0)));
            text.append(' ').append(x.ofFolded(method, place, 1)).append(' ').append(x.ofFolded(method, place, 2));
            text.append('@').append(x.ofFolded(method, place, 3));
        }
        return many < 0 ? "none" : text.toString();
    }

    /** The lines of a SHRUNK method, "; " between two. */
    static String lines(Shrinkforge x, int method) {
        StringBuilder text = new StringBuilder();
        int many = x.lines(method);
        for (int place = 0; place < many; place++) {
            text.append(place == 0 ? "" : "; ").append(x.line(method, place));
        }
        return many < 0 ? "none" : text.toString();
    }
}
