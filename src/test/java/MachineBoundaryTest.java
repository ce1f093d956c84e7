/** The boundaries of section 2 in runs: what each INSTRUCTION does at its edges, what goes wrong, GUARDS and BEATS. */
final class MachineBoundaryTest {
    private static final int LEAST = Integer.MIN_VALUE;
    private static final int GREATEST = Integer.MAX_VALUE;

    public static void main(String[] args) {
        stack();
        wrapsAround();
        cutTowards0();
        less();
        same();
        ifZero();
        newAndNewby();
        castAndIsa();
        fieldsFoundFirst();
        cellsOfAnObject();
        methodsFoundFirst();
        argumentsOfCalls();
        intWanted();
        objectWanted();
        noneSuch();
        wrongAheadOfAnother();
        nothingElseIsDone();
        guardHasThePlace();
        firstGuardAsTold();
        guardOfWhoCalled();
        numberOfWhatWentWrong();
        handlerEmptiesTheStack();
        whatIsABeat();
        threeHundredBeats();
        noGuardSeesIt();
        twelveGoingOn();
        twelveAndBeats();
        Check.finish("MachineBoundaryTest");
    }

    private static void comes(String text, int told, String due) {
        Check.same(text + " told " + told, Ops.withEntry(text).run(0, told), due);
    }

    private static void comes(String text, String due) {
        comes(text, 0, due);
    }

    private static void stack() {
        comes("PUSH 9; PUSH 2; SUB; RETURN", "=7");
        comes("PUSH 9; PUSH 2; SWAP; SUB; RETURN", "=-7");
        comes("PUSH 5; PUSH 9; PUSH 2; SWAP; SUB; SUB; RETURN", "=12");
        comes("PUSH 5; DUP; MUL; RETURN", "=25");
        comes("PUSH 5; PUSH 6; POP; RETURN", "=5");
        comes("PUSH 5; PUSH 6; RETURN", "=6");
        comes("PUSH 5; STORE 1; PUSH 6; STORE 0; LOAD 1; LOAD 0; SUB; RETURN", "=-1");
        comes("NOP; NULL; NOP; RETURN", "=null");
        comes("NEW 0; DUP; SAME; RETURN", "=1");
        comes(Ops.pushes(12) + "ADD; ".repeat(11) + "RETURN", "=12");
        comes("LOAD 0; RETURN", LEAST, "=-2147483648");
        comes("LOAD 0; RETURN", GREATEST, "=2147483647");
        comes("PUSH -2147483648; RETURN", "=-2147483648");
        comes("PUSH 2147483647; RETURN", "=2147483647");
    }

    /** "Numbers of programs are whole numbers of 32 bits that wrap around." */
    private static void wrapsAround() {
        comes("LOAD 0; PUSH 1; ADD; RETURN", GREATEST - 1, "=2147483647");
        comes("LOAD 0; PUSH 1; ADD; RETURN", GREATEST, "=-2147483648");
        comes("LOAD 0; PUSH 1; SUB; RETURN", LEAST + 1, "=-2147483648");
        comes("LOAD 0; PUSH 1; SUB; RETURN", LEAST, "=2147483647");
        comes("LOAD 0; LOAD 0; MUL; RETURN", 46340, "=2147395600");
        comes("LOAD 0; LOAD 0; MUL; RETURN", 46341, "=-2147479015");
        comes("LOAD 0; LOAD 0; MUL; RETURN", 65536, "=0");
        comes("LOAD 0; LOAD 0; MUL; RETURN", LEAST, "=0");
        comes("LOAD 0; NEG; RETURN", LEAST + 1, "=2147483647");
        comes("LOAD 0; NEG; RETURN", LEAST, "=-2147483648");
        comes("LOAD 0; NEG; RETURN", 0, "=0");
        comes("LOAD 0; LOAD 0; ADD; RETURN", LEAST, "=0");
        comes("PUSH 0; LOAD 0; SUB; RETURN", LEAST, "=-2147483648");
    }

    /** "x / y (cut towards 0), x - (x / y) * y", which wrap around, too. */
    private static void cutTowards0() {
        int[][] rows = {{7, 2, 3, 1}, {-7, 2, -3, -1}, {7, -2, -3, 1}, {-7, -2, 3, -1}, {1, 2, 0, 1}, {-1, 2, 0, -1},
            {0, 5, 0, 0}, {6, 2, 3, 0}, {-6, 2, -3, 0}, {LEAST, -1, LEAST, 0}, {LEAST, 1, LEAST, 0}, {GREATEST, -1, -GREATEST, 0},
            {LEAST, LEAST, 1, 0}, {GREATEST, LEAST, 0, GREATEST}, {LEAST, GREATEST, -1, -1}, {LEAST + 1, -1, GREATEST, 0}};
        for (int[] row : rows) {
            comes("LOAD 0; PUSH " + row[1] + "; DIV; RETURN", row[0], "=" + row[2]);
            comes("LOAD 0; PUSH " + row[1] + "; REM; RETURN", row[0], "=" + row[3]);
        }
        comes("PUSH 1; LOAD 0; DIV; RETURN", 0, "!2");
        comes("PUSH 1; LOAD 0; DIV; RETURN", 1, "=1");
        comes("PUSH 1; LOAD 0; DIV; RETURN", -1, "=-1");
        comes("PUSH 1; LOAD 0; REM; RETURN", 0, "!2");
        comes("PUSH 1; LOAD 0; REM; RETURN", 1, "=0");
        comes("PUSH 0; LOAD 0; DIV; RETURN", 0, "!2");
        comes("PUSH 0; LOAD 0; REM; RETURN", 0, "!2");
    }

    /** "1 if x is less, otherwise 0". */
    private static void less() {
        comes("LOAD 0; PUSH 3; LESS; RETURN", 2, "=1");
        comes("LOAD 0; PUSH 3; LESS; RETURN", 3, "=0");
        comes("LOAD 0; PUSH 3; LESS; RETURN", 4, "=0");
        comes("LOAD 0; PUSH 2147483647; LESS; RETURN", LEAST, "=1");
        comes("LOAD 0; PUSH -2147483648; LESS; RETURN", GREATEST, "=0");
        comes("LOAD 0; PUSH 0; LESS; RETURN", -1, "=1");
        comes("LOAD 0; PUSH 0; LESS; RETURN", LEAST, "=1");
    }

    /** "1 if both are like INTS, or the same OBJECT, or null both, otherwise 0". */
    private static void same() {
        comes("LOAD 0; PUSH 3; SAME; RETURN", 3, "=1");
        comes("LOAD 0; PUSH 3; SAME; RETURN", 2, "=0");
        comes("LOAD 0; PUSH 3; SAME; RETURN", 4, "=0");
        comes("LOAD 0; PUSH -1; SAME; RETURN", -1, "=1");
        comes("NULL; NULL; SAME; RETURN", "=1");
        for (int told : new int[] {0, 1, -1, LEAST}) {
            comes("LOAD 0; NULL; SAME; RETURN", told, "=0");
            comes("NULL; LOAD 0; SAME; RETURN", told, "=0");
            comes("NEW 0; LOAD 0; SAME; RETURN", told, "=0");
            comes("LOAD 0; NEW 0; SAME; RETURN", told, "=0");
        }
        comes("NEW 0; NULL; SAME; RETURN", "=0");
        comes("NULL; NEW 0; SAME; RETURN", "=0");
        comes("NEW 0; NEW 0; SAME; RETURN", "=0");
        comes("NEW 0; STORE 1; LOAD 1; LOAD 1; SAME; RETURN", "=1");
        comes("NEW 0; STORE 1; NEW 0; POP; LOAD 1; LOAD 1; SAME; RETURN", "=1");
    }

    /** "goes on at the place a if x is 0". */
    private static void ifZero() {
        for (int told : new int[] {-1, 1, LEAST, GREATEST, 256, 65536}) {
            comes("LOAD 0; IF0 4; PUSH 1; RETURN; PUSH 2; RETURN", told, "=1");
        }
        comes("LOAD 0; IF0 4; PUSH 1; RETURN; PUSH 2; RETURN", 0, "=2");
        comes("NULL; IF0 2; NULL; RETURN", "!3");
        comes("NEW 0; IF0 2; NULL; RETURN", "!3");
    }

    /** "a NEW of an INTERFACE; a NEWBY of a number that is no class, an INTERFACE, or not NAMED". */
    private static void newAndNewby() {
        String[] rows = {"class named", "class", "interface named", "interface", "class 0 named", "class 4", "class named",
            "class named", "method 0 0 1 static entry: LOAD 0; NEWBY; RETURN"};
        Shrinkforge x = Ops.program(rows);
        String[] due = {"=C0", "!5", "!5", "!5", "=C4", "!5", "=C6", "=C7"};
        for (int c = 0; c < 8; c++) {
            Check.same("NEWBY of " + c, x.run(0, c), due[c]);
        }
        for (int none : new int[] {-1, 8, 9, 31, 32, 36, 64, 256, LEAST, GREATEST}) {
            Check.same("NEWBY of no class " + none, x.run(0, none), "!5");
        }
        x.named(1, true);
        Check.same("NAMED now", x.run(0, 1), "=C1");
        x.named(7, false);
        Check.same("not NAMED now", x.run(0, 7), "!5");
        String[] news = {"=C0", "=C1", "!5", "!5", "=C4", "=C5", "=C6", "=C7"};
        for (int c = 0; c < 8; c++) {
            x.cut(0, x.ofMethod(0, 5));
            Ops.type(x, 0, "NEW " + c + "; RETURN");
            Check.same("NEW " + c, x.run(0, 0), news[c]);
        }
        comes("NULL; NEWBY; RETURN", "!3");
        comes("NEW 0; NEWBY; RETURN", "!3");
    }

    /** "a CAST of null is right"; ISA: "1 if it is an OBJECT of a class that IS A class a, otherwise 0". */
    private static void castAndIsa() {
        String[] kin = {"class", "class 0 has 2", "interface", "class"};
        String[][] rows = {{"NEW 1", "1", "1", "1", "0"}, {"NEW 0", "1", "0", "0", "0"}, {"NEW 3", "0", "0", "0", "1"}};
        for (String[] row : rows) {
            for (int c = 0; c < 4; c++) {
                String isa = "method 0 0 0 static entry: " + row[0] + "; ISA " + c + "; RETURN";
                Check.same(isa, kinWith(kin, isa).run(0, 0), "=" + row[c + 1]);
                String cast = "method 0 0 0 static entry: " + row[0] + "; CAST " + c + "; RETURN";
                Check.same(cast, kinWith(kin, cast).run(0, 0), row[c + 1].equals("1") ? "=C" + row[0].charAt(4) : "!4");
            }
        }
        for (int c = 0; c < 4; c++) {
            comesOfKin(kin, "NULL; CAST " + c + "; RETURN", "=null");
            comesOfKin(kin, "PUSH 0; CAST " + c + "; RETURN", "!3");
            comesOfKin(kin, "PUSH 1; CAST " + c + "; RETURN", "!3");
            comesOfKin(kin, "NULL; ISA " + c + "; RETURN", "=0");
            comesOfKin(kin, "PUSH 0; ISA " + c + "; RETURN", "=0");
            comesOfKin(kin, "PUSH 1; ISA " + c + "; RETURN", "=0");
        }
    }

    /** The interface C2 comes behind C1, which has it: so "has 2" is told at the end. */
    private static Shrinkforge kinWith(String[] kin, String method) {
        Shrinkforge x = Ops.program("class", "class 0", "interface", "class", method);
        x.implement(1, 2);
        return x;
    }

    private static void comesOfKin(String[] kin, String text, String due) {
        Check.same(text, kinWith(kin, "method 0 0 0 static entry: " + text).run(0, 0), due);
    }

    private static final String[] HIDING = {"class", "class 0", "class 1", "field 0 0", "field 1 0 static", "field 0 1 static",
        "field 1 1", "field 0 2", "field 0 3 static"};

    private static void comesHiding(String text, String due) {
        String[] rows = new String[HIDING.length + 1];
        System.arraycopy(HIDING, 0, rows, 0, HIDING.length);
        rows[HIDING.length] = "method 0 0 0 static entry locals 1: " + text;
        Check.same(text, Ops.program(rows).run(0, 0), due);
    }

    /** "the first one found; it must be no STATIC one, or a STATIC one". */
    private static void fieldsFoundFirst() {
        comesHiding("NEW 2; GET 0 0; RETURN", "=0");
        comesHiding("NEW 2; GET 1 0; RETURN", "!5");
        comesHiding("NEW 2; GET 2 0; RETURN", "!5");
        comesHiding("NEW 2; GET 0 1; RETURN", "!5");
        comesHiding("NEW 2; GET 1 1; RETURN", "=0");
        comesHiding("NEW 2; GET 2 1; RETURN", "=0");
        comesHiding("NEW 2; GET 2 2; RETURN", "=0");
        comesHiding("NEW 2; GET 2 3; RETURN", "!5");
        comesHiding("NEW 2; GET 2 4; RETURN", "!5");
        comesHiding("SGET 0 0; RETURN", "!5");
        comesHiding("SGET 1 0; RETURN", "=0");
        comesHiding("SGET 2 0; RETURN", "=0");
        comesHiding("SGET 0 1; RETURN", "=0");
        comesHiding("SGET 1 1; RETURN", "!5");
        comesHiding("SGET 2 1; RETURN", "!5");
        comesHiding("SGET 2 3; RETURN", "=0");
        comesHiding("SGET 2 2; RETURN", "!5");
        comesHiding("SGET 2 4; RETURN", "!5");
        comesHiding("SGET 2 63; RETURN", "!5");
        comesHiding("NEW 2; PUSH 1; PUT 0 0; NULL; RETURN", "=null");
        comesHiding("NEW 2; PUSH 1; PUT 2 0; NULL; RETURN", "!5");
        comesHiding("NEW 2; PUSH 1; PUT 0 1; NULL; RETURN", "!5");
        comesHiding("NEW 2; PUSH 1; PUT 2 10; NULL; RETURN", "!5");
        comesHiding("PUSH 1; SPUT 2 0; SGET 1 0; RETURN", "=1");
        comesHiding("PUSH 1; SPUT 2 1; NULL; RETURN", "!5");
        comesHiding("PUSH 1; SPUT 0 0; NULL; RETURN", "!5");
        comesHiding("PUSH 1; SPUT 2 9; NULL; RETURN", "!5");
        comesHiding("PUSH 4; SPUT 2 3; PUSH 5; SPUT 2 0; SGET 0 3; SGET 2 0; SUB; RETURN", "=-1");
    }

    /** "An OBJECT has a cell for each field that is not STATIC of its class and of all UPWARD, 0 at first." */
    private static void cellsOfAnObject() {
        for (int f = 0; f < 16; f++) {
            Shrinkforge x = Ops.program("class", "class 0",
                    "method 0 0 1 static entry locals 2: NEW 1; STORE 1; NEW 1; STORE 2; LOAD 1; CALL 0 4; POP; LOAD 1; CALL 0 8;"
                            + " POP; LOAD 0; IF0 14; LOAD 2; STORE 1; LOAD 1; GET " + f / 10 + " " + f % 10 + "; RETURN",
                    "method 0 1 0: " + puts(0, 8), "method 0 2 0: " + puts(8, 16));
            for (int g = 0; g < 16; g++) {
                x.field(g / 10, g % 10, false);
            }
            Check.same("cell of field " + f, x.run(0, 0), "=" + (100 + f));
            Check.same("of another OBJECT it is 0: " + f, x.run(0, 1), "=0");
        }
        Shrinkforge y = Ops.program("class", "class 0", "class 1", "field 0 0", "field 1 0", "field 2 0",
                "method 0 0 0 static entry locals 1: NEW 2; STORE 0; LOAD 0; PUSH 1; PUT 0 0; LOAD 0; PUSH 2; PUT 1 0; LOAD 0;"
                        + " PUSH 3; PUT 2 0; LOAD 0; GET 0 0; PRINT; LOAD 0; GET 1 0; PRINT; LOAD 0; GET 2 0; PRINT; LOAD 0;"
                        + " LOAD 0; PUT 1 0; LOAD 0; GET 1 0; RETURN");
        Check.same("one NAME, three cells", y.run(0, 0) + y.out(), "=C21 2 3");
    }

    private static String puts(int from, int to) {
        StringBuilder text = new StringBuilder();
        for (int f = from; f < to; f++) {
            text.append("LOAD 0; PUSH ").append(100 + f).append("; PUT ").append(f / 10).append(' ').append(f % 10).append("; ");
        }
        return text.append("NULL; RETURN").toString();
    }

    private static void comesCalling(String text, String due) {
        Shrinkforge x = Ops.program("class", "class 0", "class 1", "interface", "method 0 0 0 static entry: " + text,
                "method 0 1 0: PUSH 10; RETURN", "method 1 1 0", "method 0 2 0: PUSH 20; RETURN",
                "method 1 2 0 static: PUSH 21; RETURN", "method 0 3 0 static: PUSH 30; RETURN", "method 1 3 0: PUSH 31; RETURN",
                "method 0 4 0: PUSH 40; RETURN", "method 1 4 0: PUSH 41; RETURN", "method 3 4 0", "method 0 5 0 static",
                "method 2 1 0: PUSH 12; RETURN");
        x.implement(0, 3);
        Check.same(text, x.run(0, 0), due);
    }

    /** "the first one found; it must be no ABSTRACT one, and with CALL and DCALL no STATIC one, with SCALL a STATIC one". */
    private static void methodsFoundFirst() {
        comesCalling("NEW 0; CALL 0 4; RETURN", "=10");
        comesCalling("NEW 1; CALL 0 4; RETURN", "!5");
        comesCalling("NEW 2; CALL 0 4; RETURN", "=12");
        comesCalling("NEW 2; DCALL 0 4; RETURN", "=10");
        comesCalling("NEW 2; DCALL 1 4; RETURN", "!5");
        comesCalling("NEW 2; DCALL 2 4; RETURN", "=12");
        comesCalling("NEW 0; CALL 0 8; RETURN", "=20");
        comesCalling("NEW 1; CALL 0 8; RETURN", "!5");
        comesCalling("NEW 1; DCALL 0 8; RETURN", "=20");
        comesCalling("NEW 1; DCALL 1 8; RETURN", "!5");
        comesCalling("SCALL 0 8; RETURN", "!5");
        comesCalling("SCALL 1 8; RETURN", "=21");
        comesCalling("SCALL 2 8; RETURN", "=21");
        comesCalling("SCALL 0 12; RETURN", "=30");
        comesCalling("SCALL 1 12; RETURN", "!5");
        comesCalling("SCALL 0 20; RETURN", "!5");
        comesCalling("SCALL 2 20; RETURN", "!5");
        comesCalling("NEW 0; CALL 0 12; RETURN", "!5");
        comesCalling("NEW 1; CALL 0 12; RETURN", "=31");
        comesCalling("NEW 2; CALL 3 16; RETURN", "=41");
        comesCalling("NEW 0; CALL 3 16; RETURN", "=40");
        comesCalling("NEW 0; DCALL 3 16; RETURN", "!5");
        comesCalling("NEW 2; DCALL 0 16; RETURN", "=40");
        comesCalling("NEW 0; CALL 0 24; RETURN", "!5");
        comesCalling("NEW 0; CALL 0 60; RETURN", "!5");
        comesCalling("SCALL 3 12; RETURN", "!5");
    }

    /** "take an OBJECT and, above it, as many values as the ARITY of the SIGNATURE b". */
    private static void argumentsOfCalls() {
        for (int arity = 0; arity <= 3; arity++) {
            StringBuilder values = new StringBuilder();
            StringBuilder body = new StringBuilder("PUSH 0");
            int sum = 0;
            for (int k = 0; k < arity; k++) {
                values.append("PUSH ").append(k + 5).append("; ");
                body.append("; PUSH 10; MUL; LOAD ").append(k + 1).append("; ADD");
                sum = sum * 10 + k + 5;
            }
            for (String op : new String[] {"CALL", "DCALL"}) {
                Shrinkforge x = Ops.program("class", "method 0 0 0 static entry: PUSH 1000; NEW 0; " + values + op + " 0 "
                        + (4 + arity) + "; ADD; RETURN", "method 0 1 " + arity + ": " + body + "; RETURN");
                Check.same(op + " with ARITY " + arity, x.run(0, 0), "=" + (1000 + sum));
            }
            String ofStatic = body.toString().replace("LOAD 1", "LOAD 0").replace("LOAD 2", "LOAD 1").replace("LOAD 3", "LOAD 2");
            Shrinkforge y = Ops.program("class", "method 0 0 0 static entry: PUSH 1000; " + values + "SCALL 0 "
                    + (4 + arity) + "; ADD; RETURN", "method 0 1 " + arity + " static: " + ofStatic + "; RETURN");
            Check.same("SCALL with ARITY " + arity, y.run(0, 0), "=" + (1000 + sum));
        }
        Shrinkforge z = Ops.program("class", "method 0 0 0 static entry: PUSH 7; SCALL 0 4; SUB; RETURN",
                "method 0 1 0 static: PUSH 1; PUSH 2; PUSH 3; RETURN");
        Check.same("only what RETURN takes is put", z.run(0, 0), "=4");
    }

    /** "3 an INT is wanted and there is none (ADD to REM, LESS, NEG, IF0, NEWBY, THROW, PRINT; of two either one)". */
    private static void intWanted() {
        for (String none : new String[] {"NULL", "NEW 0"}) {
            for (String op : new String[] {"ADD", "SUB", "MUL", "DIV", "REM", "LESS"}) {
                comes(none + "; PUSH 1; " + op + "; RETURN", "!3");
                comes("PUSH 1; " + none + "; " + op + "; RETURN", "!3");
                comes(none + "; " + none + "; " + op + "; RETURN", "!3");
                comes("PUSH 1; PUSH 1; " + op + "; RETURN", op.equals("ADD") ? "=2" : op.equals("SUB") || op.equals("REM")
                        || op.equals("LESS") ? "=0" : "=1");
            }
            comes(none + "; NEG; RETURN", "!3");
            comes(none + "; IF0 2; NULL; RETURN", "!3");
            comes(none + "; NEWBY; RETURN", "!3");
            comes(none + "; THROW", "!3");
            comes(none + "; PRINT; NULL; RETURN", "!3");
            comes(none + "; PUSH 1; SAME; RETURN", "=0");
            comes(none + "; POP; NULL; RETURN", "=null");
            comes(none + "; STORE 0; NULL; RETURN", "=null");
            comes(none + "; SPUT 0 0; NULL; RETURN", "!5");
        }
        comes("NULL; RETURN", "=null");
        comes("NEW 0; RETURN", "=C0");
    }

    private static void comesWithAll(String text, String due) {
        Shrinkforge x = Ops.program("class", "class", "class 0", "field 0 0", "method 0 0 0 static entry: " + text,
                "method 0 1 0: PUSH 5; RETURN", "method 0 1 1: PUSH 6; RETURN");
        Check.same(text, x.run(0, 0), due);
    }

    /** "1 an OBJECT is wanted, and it is null (GET, PUT, CALL, DCALL). 3 (...) it is an INT. 4 (...) IS not A class a". */
    private static void objectWanted() {
        for (String op : new String[] {"GET 0 0", "PUSH 9; PUT 0 0; NULL", "CALL 0 4", "DCALL 0 4", "PUSH 9; CALL 0 5",
            "PUSH 9; DCALL 0 5"}) {
            comesWithAll("NULL; " + op + "; RETURN", "!1");
            comesWithAll("PUSH 0; " + op + "; RETURN", "!3");
            comesWithAll("PUSH 1; " + op + "; RETURN", "!3");
            comesWithAll("NEW 1; " + op + "; RETURN", "!4");
            String fine = op.startsWith("GET") ? "=0" : op.contains("PUT") ? "=null" : op.contains("0 4") ? "=5" : "=6";
            comesWithAll("NEW 0; " + op + "; RETURN", fine);
            comesWithAll("NEW 2; " + op + "; RETURN", fine);
            comesWithAll("NEW 0; " + op.replace(" 0 ", " 2 ") + "; RETURN", "!4");
        }
        comesWithAll("NEW 0; NULL; PUT 0 0; NULL; RETURN", "=null");
        comesWithAll("NEW 0; NULL; CALL 0 5; RETURN", "=6");
    }

    /** "5 there is none such": behind 1, 3 and 4. */
    private static void noneSuch() {
        for (String op : new String[] {"GET 0 7", "PUSH 9; PUT 0 7; NULL", "CALL 0 40", "DCALL 0 40", "PUSH 9; CALL 0 41",
            "PUSH 9; DCALL 0 41"}) {
            comesWithAll("NULL; " + op + "; RETURN", "!1");
            comesWithAll("PUSH 0; " + op + "; RETURN", "!3");
            comesWithAll("NEW 1; " + op + "; RETURN", "!4");
            comesWithAll("NEW 0; " + op + "; RETURN", "!5");
        }
        comesWithAll("SCALL 0 40; RETURN", "!5");
        comesWithAll("PUSH 1; SCALL 0 5; RETURN", "!5");
        comesWithAll("SGET 0 7; RETURN", "!5");
        comesWithAll("PUSH 1; SPUT 0 7; NULL; RETURN", "!5");
    }

    /** "3 (...) 2 DIV or REM by 0": 3 goes ahead of 2, and of 6. */
    private static void wrongAheadOfAnother() {
        comes("NULL; PUSH 0; DIV; RETURN", "!3");
        comes("NULL; PUSH 0; REM; RETURN", "!3");
        comes("NEW 0; PUSH 0; DIV; RETURN", "!3");
        comes("PUSH 0; NULL; DIV; RETURN", "!3");
        comes("NULL; THROW", "!3");
        comes("NEW 0; THROW", "!3");
        comes("PUSH 3; THROW", "!6:3");
        comes("LOAD 0; THROW", 0, "!6:0");
        comes("LOAD 0; THROW", LEAST, "!6:-2147483648");
    }

    /** "What was to be taken is taken, nothing else is done." */
    private static void nothingElseIsDone() {
        Shrinkforge x = Ops.withEntry("PUSH 4; PRINT; NULL; PRINT; PUSH 5; PRINT; NULL; RETURN; RETURN");
        Check.same("wrong", x.run(0, 0) + x.out() + x.ofRun(1), "!341");
        x.guard(0, 0, 7, 8);
        Check.same("caught", x.run(0, 0) + x.out() + x.ofRun(1), "=-341");
        Shrinkforge y = Ops.program("class", "class", "field 0 0", "field 0 1 static",
                "method 0 0 0 static entry locals 1: NEW 0; STORE 0; LOAD 0; PUSH 3; PUT 1 0; NULL; RETURN; POP; LOAD 0; GET 0 0;"
                        + " RETURN", "guard 0 0 5 7");
        Check.same("PUT of the wrong class stores nothing", y.run(0, 0), "=0");
        Shrinkforge z = Ops.program("class", "field 0 0", "field 0 1 static",
                "method 0 0 0 static entry: PUSH 8; SPUT 0 1; PUSH 3; SPUT 0 0; NULL; RETURN; POP; SGET 0 1; RETURN",
                "guard 0 0 4 6");
        Check.same("SPUT of none such stores nothing", z.run(0, 0), "=8");
    }

    private static String guardedRun(String text, int from, int to, int handler) {
        Shrinkforge x = Ops.withEntry(text);
        x.guard(0, from, to, handler);
        return x.run(0, 0);
    }

    /** "each from a place (with it) to a place (without it)". */
    private static void guardHasThePlace() {
        String text = "NOP; NOP; PUSH 9; THROW; RETURN; RETURN";
        Check.same("its first place", guardedRun(text, 3, 4, 5), "=9");
        Check.same("its last place", guardedRun(text, 0, 4, 5), "=9");
        Check.same("behind its last place", guardedRun(text, 0, 3, 5), "!6:9");
        Check.same("ahead of its first place", guardedRun(text, 4, 6, 5), "!6:9");
        Check.same("in the middle", guardedRun(text, 2, 5, 5), "=9");
        Check.same("all of them", guardedRun(text, 0, 6, 5), "=9");
        Check.same("place 0", guardedRun("SGET 0 0; RETURN; RETURN", 0, 1, 2), "=-5");
    }

    /** "the first of its GUARDS (as told) that has the place". */
    private static void firstGuardAsTold() {
        String text = "PUSH 9; THROW; PRINT; PUSH 1; RETURN; PRINT; PUSH 2; RETURN";
        int[][] rows = {{0, 2, 1, 2, 1}, {1, 2, 0, 2, 1}, {0, 1, 1, 2, 2}, {0, 1, 0, 2, 2}, {2, 3, 1, 2, 2}, {0, 8, 0, 8, 1}};
        for (int[] row : rows) {
            Shrinkforge x = Ops.withEntry(text);
            x.guard(0, row[0], row[1], 2);
            x.guard(0, row[2], row[3], 5);
            Check.same("guards " + row[0] + " " + row[1] + ", " + row[2] + " " + row[3], x.run(0, 0), "=" + row[4]);
        }
        Shrinkforge y = Ops.withEntry("PUSH 9; THROW; NULL; THROW; RETURN");
        y.guard(0, 0, 2, 2);
        y.guard(0, 2, 4, 4);
        Check.same("the HANDLER of one in the other", y.isRight(0), true);
        Check.same("what goes wrong in a HANDLER is looked at anew", y.run(0, 0) + y.ofRun(0), "=-32");
    }

    /** "(or in what it called there, and it was not caught in that) (...) and it is looked at who called". */
    private static void guardOfWhoCalled() {
        int[][] rows = {{3, 4, 1}, {0, 4, 1}, {0, 3, 0}, {4, 5, 0}, {3, 5, 1}};
        for (int[] row : rows) {
            Shrinkforge x = calling();
            x.guard(0, row[0], row[1], 5);
            Check.same("guard of the first " + row[0] + " " + row[1], x.run(0, 9), row[2] == 1 ? "=9" : "!6:9");
            Check.same("beats " + row[0] + " " + row[1], x.ofRun(0), 2 + row[2]);
            Check.same("trace " + row[0] + " " + row[1], x.trace(), row[2] == 1 ? "" : "C0.m2/1:1 C0.m1/1:1 C0.m0/1:3");
        }
        Shrinkforge y = calling();
        y.guard(0, 0, 5, 5);
        y.guard(1, 1, 2, 4);
        Check.same("who called it goes ahead of who called that", y.run(0, 9), "=10");
        Check.same("without a HANDLER of the first", y.ofRun(0), 3);
        y.guard(2, 1, 2, 2);
        Check.same("it itself goes ahead of all", y.run(0, 9) + y.out(), "=1");
        Check.same("it was thrown and caught once", y.ofRun(0), 3);
        Shrinkforge z = calling();
        z.guard(0, 3, 4, 5);
        z.guard(1, 0, 1, 4);
        Check.same("one without the place does not hinder", z.run(0, 9), "=9");
    }

    /** C0.m0/1 calls C0.m1/1 at 3, that calls C0.m2/1 at 1, and that throws at 1. */
    private static Shrinkforge calling() {
        return Ops.program("class",
                "method 0 0 1 static entry: PUSH 7; POP; LOAD 0; SCALL 0 5; RETURN; RETURN",
                "method 0 1 1 static: LOAD 0; SCALL 0 9; NOP; RETURN; POP; PUSH 10; RETURN",
                "method 0 2 1 static: LOAD 0; THROW; POP; PUSH 1; RETURN");
    }

    /** "the NUMBER of what went wrong is put (x for a THROW of x, otherwise its kind below 0: -1 to -5, -7)". */
    private static void numberOfWhatWentWrong() {
        Check.same("1", guardedRun("NULL; GET 0 0; RETURN; RETURN", 0, 3, 3), "=-1");
        Check.same("2", guardedRun("PUSH 1; LOAD 0; DIV; RETURN; RETURN", 0, 4, 4), "=-2");
        Check.same("3", guardedRun("NULL; NEG; RETURN; RETURN", 0, 3, 3), "=-3");
        Check.same("7", guardedRun("PUSH 1; SCALL 0 1; RETURN; RETURN", 0, 3, 3), "=-7");
        Check.same("5", guardedRun("SGET 0 0; RETURN; RETURN", 0, 2, 2), "=-5");
        Shrinkforge x = Ops.program("class", "class", "method 0 0 0 static entry: NEW 0; CAST 1; RETURN; RETURN", "guard 0 0 2 3");
        Check.same("4", x.run(0, 0), "=-4");
        for (int told : new int[] {0, 1, -1, -3, 6, -6, LEAST, GREATEST}) {
            Shrinkforge y = Ops.withEntry("LOAD 0; THROW; RETURN");
            y.guard(0, 0, 2, 2);
            Check.same("6 " + told, y.run(0, told), "=" + told);
        }
        Shrinkforge z = Ops.withEntry("PUSH 8; THROW; PRINT; PUSH 1; PUSH 0; DIV; RETURN");
        z.guard(0, 0, 2, 2);
        Check.same("another kind behind a THROW", z.run(0, 0), "!2");
    }

    /** "the stack of the method becomes empty, the NUMBER (...) is put": variables stay. */
    private static void handlerEmptiesTheStack() {
        Shrinkforge x = Ops.withEntry("PUSH 5; STORE 1; PUSH 1; PUSH 2; NULL; NEG; RETURN; LOAD 1; MUL; RETURN");
        x.guard(0, 5, 6, 7);
        Check.same("HEIGHT 1 in the HANDLER", x.isRight(0), true);
        Check.same("variables stay", x.run(0, 0), "=-15");
        Shrinkforge y = Ops.withEntry(Ops.pushes(12) + "LOAD 0; RETURN");
        Check.same("13 are not RIGHT", y.isRight(0), false);
        Shrinkforge z = Ops.withEntry(Ops.pushes(11) + "NULL; NEG; RETURN; " + Ops.pushes(11) + "ADD; RETURN");
        z.guard(0, 12, 13, 14);
        Check.same("12 in the HANDLER", z.isRight(0), true);
        Check.same("all its room is there", z.run(0, 0), "=2");
        Shrinkforge v = Ops.withEntry(Ops.pushes(5) + "NULL; NEG; RETURN; POP; LOAD 1; PUSH 1; ADD; STORE 1; LOAD 1; LOAD 0; LESS; IF0 18;"
                + " JUMP 0; NOP; PUSH 8; PUSH 9; SUB; RETURN");
        v.guard(0, 6, 7, 8);
        for (int told = 1; told <= 149; told += 37) {
            Check.same("emptied each time: " + told, v.run(0, told), "=-1");
            Check.same("times: " + told, v.ofRun(0), 2 * told - 1);
        }
    }

    private static void beats(String text, int told, int due) {
        Shrinkforge x = Ops.withEntry(text);
        x.method(0, 1, 0, true, 0);
        Ops.type(x, 1, "PUSH 1; RETURN");
        x.method(0, 2, 0, false, 0);
        Ops.type(x, 2, "PUSH 1; RETURN");
        x.run(0, told);
        Check.same("beats of " + text + " told " + told, x.ofRun(0), due);
    }

    /** "A BEAT is: each method that is begun by a call, each JUMP that goes to an a not above its own place, (...)". */
    private static void whatIsABeat() {
        beats("NULL; RETURN", 0, 0);
        beats("SCALL 0 4; RETURN", 0, 1);
        beats("SCALL 0 4; POP; SCALL 0 4; RETURN", 0, 2);
        beats("NEW 0; CALL 0 8; RETURN", 0, 1);
        beats("NEW 0; DCALL 0 8; RETURN", 0, 1);
        beats("SCALL 0 12; RETURN", 0, 0);
        beats("NULL; CALL 0 8; RETURN", 0, 0);
        beats("JUMP 1; NULL; RETURN", 0, 0);
        beats("JUMP 3; NULL; RETURN; JUMP 1", 0, 1);
        beats("JUMP 3; NULL; RETURN; NOP; JUMP 1", 0, 1);
        beats("JUMP 0", 0, 300);
        beats("NOP; JUMP 1", 0, 300);
        beats("NOP; JUMP 0", 0, 300);
        beats("LOAD 0; IF0 2; NULL; RETURN", 0, 0);
        beats("LOAD 0; IF0 4; NULL; RETURN; NULL; RETURN", 0, 0);
        beats("JUMP 3; NULL; RETURN; LOAD 0; IF0 1; NULL; RETURN", 0, 1);
        beats("JUMP 3; NULL; RETURN; LOAD 0; IF0 1; NULL; RETURN", 1, 0);
        beats("JUMP 3; NULL; RETURN; LOAD 0; IF0 3; NULL; RETURN", 0, 300);
        beats("JUMP 3; NULL; RETURN; LOAD 0; DUP; IF0 4; RETURN", 0, 300);
        beats("JUMP 3; NULL; RETURN; LOAD 0; DUP; IF0 4; RETURN", 1, 0);
        Shrinkforge x = Ops.withEntry("PUSH 1; THROW; RETURN");
        x.guard(0, 0, 2, 2);
        x.run(0, 0);
        Check.same("a HANDLER", x.ofRun(0), 1);
        Shrinkforge y = Ops.withEntry("PUSH 1; THROW; POP; NULL; NEG; RETURN; RETURN");
        y.guard(0, 0, 2, 2);
        y.guard(0, 2, 5, 6);
        y.run(0, 0);
        Check.same("two HANDLERS", y.ofRun(0), 2);
    }

    /** Makes so many BEATS in the places 0 to 8, and goes on at 9. */
    private static String burn(int beats) {
        return "PUSH " + beats + "; STORE 1; LOAD 1; IF0 9; LOAD 1; PUSH 1; SUB; STORE 1; JUMP 2; ";
    }

    private static void lastBeat(String text, String due) {
        for (int beats = 298; beats <= 300; beats++) {
            Shrinkforge x = burning(beats, text);
            Check.same(text + " behind " + beats, x.run(0, 0), beats < 300 ? due : "?");
            Check.same("beats of " + text + " behind " + beats, x.ofRun(0), Math.min(beats + 1, 300));
            Check.same("begun by " + text + " behind " + beats, x.begun(1) + x.begun(2),
                    text.contains("CALL") && beats < 300 ? 1 : 0);
            Check.same("no TRACE of " + text, x.trace() + x.raw(), "");
        }
    }

    private static Shrinkforge burning(int beats, String text) {
        return Ops.program("class", "method 0 0 1 static entry locals 1: " + burn(beats) + text,
                "method 0 1 0 static: PUSH 5; RETURN", "method 0 2 0: PUSH 5; RETURN");
    }

    /** "With 300 BEATS made, one more is not made: the run ends there, it is OPEN". */
    private static void threeHundredBeats() {
        lastBeat("SCALL 0 4; RETURN", "=5");
        lastBeat("NEW 0; CALL 0 8; RETURN", "=5");
        lastBeat("NEW 0; DCALL 0 8; RETURN", "=5");
        lastBeat("JUMP 12; PUSH 6; RETURN; JUMP 10", "=6");
        lastBeat("JUMP 12; PUSH 6; RETURN; PUSH 0; IF0 10; NULL; RETURN", "=6");
        for (String text : new String[] {"JUMP 10; PUSH 6; RETURN", "JUMP 12; PUSH 8; RETURN; PUSH 1; IF0 10; PUSH 6; RETURN",
            "PUSH 0; IF0 11; PUSH 6; RETURN", "PUSH 6; RETURN"}) {
            Shrinkforge x = burning(300, text);
            Check.same("no BEAT more: " + text, x.run(0, 0), "=6");
            Check.same("300 made: " + text, x.ofRun(0), 300);
        }
        for (int beats = 298; beats <= 300; beats++) {
            Shrinkforge x = burning(beats, "PUSH 3; THROW; RETURN");
            x.guard(0, 10, 11, 11);
            Check.same("a HANDLER behind " + beats, x.run(0, 0), beats < 300 ? "=3" : "?");
            Check.same("its beats behind " + beats, x.ofRun(0), Math.min(beats + 1, 300));
        }
        Shrinkforge y = burning(300, "PUSH 3; THROW");
        Check.same("without a HANDLER it goes wrong", y.run(0, 0), "!6:3");
        Check.same("with a TRACE", y.trace(), "C0.m0/1:10");
        Shrinkforge z = burning(300, "SCALL 0 12; RETURN");
        Check.same("what goes wrong goes ahead of the BEAT", z.run(0, 0), "!5");
    }

    /** "it is OPEN, and no GUARD sees it". */
    private static void noGuardSeesIt() {
        Shrinkforge x = Ops.withEntry("NOP; JUMP 0; NOP; RETURN");
        x.guard(0, 0, 2, 3);
        Check.same("its own", x.run(0, 0) + x.ofRun(0), "?300");
        Shrinkforge y = Ops.program("class", "method 0 0 0 static entry: SCALL 0 4; RETURN; RETURN", "method 0 1 0 static: JUMP 0",
                "guard 0 0 1 2");
        Check.same("that of who called", y.run(0, 0) + y.ofRun(0) + y.ofRun(2), "?3002");
        Shrinkforge z = Ops.withEntry("PUSH 1; THROW; THROW; RETURN");
        z.guard(0, 0, 3, 2);
        Check.same("HANDLERS without an end", z.run(0, 0) + z.ofRun(0), "?300");
    }

    /** Goes down so deep as it is told, and does what the text says from place 7 on. */
    private static Shrinkforge down(String text) {
        return Ops.program("class", "method 0 0 1 static entry locals 1: LOAD 0; IF0 7; LOAD 0; PUSH -1; ADD; SCALL 0 1; RETURN; "
                + text, "method 0 1 0 static: PUSH 5; RETURN", "method 0 2 0: PUSH 5; RETURN", "class");
    }

    /** "7 a method would be begun while 12 are going on (that is no BEAT)". */
    private static void twelveGoingOn() {
        for (String call : new String[] {"SCALL 0 4", "NEW 0; CALL 0 8", "NEW 0; DCALL 0 8"}) {
            int place = call.startsWith("NEW") ? 8 : 7;
            Shrinkforge x = down(call + "; RETURN");
            Check.same("the 12th is begun: " + call, x.run(0, 10), "=5");
            Check.same("12 going on: " + call, x.ofRun(2), 12);
            Check.same("11 calls: " + call, x.ofRun(0), 11);
            Check.same("a 13th is not: " + call, x.run(0, 11), "!7");
            Check.same("that is no BEAT: " + call, x.ofRun(0), 11);
            Check.same("nor is it begun: " + call, x.begun(0) * 10 + x.begun(1) + x.begun(2), 120);
            Check.same("12 in the TRACE: " + call, x.trace(), "C0.m0/1:" + place + " C0.m0/1:5".repeat(11));
            x.cut(0, 1);
            Ops.type(x, 0, "RETURN; RETURN");
            x.guard(0, 7, place + 1, place + 2);
            Check.same("a GUARD sees it: " + call, x.run(0, 11), "=-7");
        }
        String[][] rows = {{"NULL; CALL 0 8", "!1"}, {"PUSH 0; CALL 0 8", "!3"}, {"NEW 1; CALL 0 8", "!4"},
            {"NEW 0; CALL 0 12", "!5"}, {"NULL; DCALL 0 8", "!1"}, {"NEW 0; DCALL 0 12", "!5"}, {"SCALL 0 12", "!5"}};
        for (String[] row : rows) {
            Check.same("goes ahead of 7: " + row[0], down(row[0] + "; RETURN").run(0, 11), row[1]);
        }
        Shrinkforge y = down("SCALL 0 4; POP; SCALL 0 4; RETURN");
        Check.same("one that ended goes on no more", y.run(0, 10), "=5");
        Check.same("so there are 12, twice", y.ofRun(2) * 100 + y.ofRun(0), 1212);
    }

    /** 7 is looked at ahead of the BEAT: with 300 made it goes wrong, and only a HANDLER would be one more. */
    private static void twelveAndBeats() {
        for (int beats = 288; beats <= 290; beats++) {
            String text = "PUSH " + beats + "; STORE 1; LOAD 1; IF0 16; LOAD 1; PUSH 1; SUB; STORE 1; JUMP 9; SCALL 0 4; RETURN; RETURN";
            Shrinkforge x = down(text);
            Check.same("12 going on and beats " + (11 + beats), x.run(0, 11), beats < 290 ? "!7" : "?");
            Check.same("beats", x.ofRun(0), Math.min(11 + beats, 300));
            Check.same("11 going on and beats " + (10 + beats), x.run(0, 10), beats < 290 ? "=5" : "?");
            x.guard(0, 16, 17, 18);
            Check.same("a HANDLER behind " + (11 + beats), x.run(0, 11), beats < 289 ? "=-7" : "?");
        }
    }
}
