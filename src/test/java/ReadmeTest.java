import java.lang.reflect.Method;
import java.net.URL;
import java.net.URLClassLoader;
import java.nio.file.Files;
import java.nio.file.Path;
import java.util.ArrayList;
import java.util.List;
import java.util.regex.Matcher;
import java.util.regex.Pattern;
import javax.tools.ToolProvider;

/** The calls that README.md shows are one program: it is compiled as it stands there, and each answer is compared. */
final class ReadmeTest {
    private static final Path ROOM = Path.of("build/readme");
    private static final String NAME = "ReadmeRun";
    /** A call, with "type name = " before it or without, and its answer behind "//", to a colon or the row's end. */
    private static final Pattern ROW = Pattern.compile(
            "(?:(\\w+) (\\w+) = )?((?:x|new Shrinkforge\\(\\))\\.(\\w+)\\(.*\\)); *// ([^\":]+|\"[^\"]*\")(?:: .*)?");
    private static final String MAKING = "Shrinkforge x = new Shrinkforge();";

    public static void main(String[] args) throws Exception {
        List<String> rows = Files.readAllLines(Path.of("README.md"));
        List<String> calls = callsIn(rows);
        Check.isTrue("README.md shows calls", calls.size() > 100);
        runAll(calls);
        showsEachOf(calls);
        tellsOps(rows);
        Check.finish("ReadmeTest");
    }

    /** What stands between the marks of a block of Java. */
    private static List<String> callsIn(List<String> rows) {
        List<String> calls = new ArrayList<>();
        boolean isInside = false;
        for (String row : rows) {
            if (row.startsWith("```")) {
                isInside = row.equals("```java");
            } else if (isInside) {
                calls.add(row.trim());
            }
        }
        return calls;
    }

    private static void runAll(List<String> calls) throws Exception {
        Files.createDirectories(ROOM);
        Path file = ROOM.resolve(NAME + ".java");
        Files.writeString(file, programOf(calls));
        int ended = ToolProvider.getSystemJavaCompiler().run(null, System.out, System.out,
                "-cp", System.getProperty("java.class.path"), "-d", ROOM.toString(), file.toString());
        Check.same("README.md compiles", ended, 0);
        if (ended == 0) {
            run();
        }
    }

    private static void run() throws Exception {
        URL[] places = {ROOM.toUri().toURL()};
        try (URLClassLoader loader = new URLClassLoader(places, ReadmeTest.class.getClassLoader())) {
            Method run = loader.loadClass(NAME).getMethod("run", List.class);
            List<Object> told = new ArrayList<>();
            run.invoke(null, told);
            for (int at = 0; at + 2 < told.size(); at += 3) {
                Check.same("README.md: " + told.get(at), told.get(at + 1), told.get(at + 2));
            }
            Check.isTrue("each call was made", told.size() > 300);
        }
    }

    /** Each call adds itself, its answer and the answer that README.md gives. */
    private static String programOf(List<String> calls) {
        StringBuilder text = new StringBuilder("public final class " + NAME + " {\n"
                + "public static void run(java.util.List<Object> told) {\n");
        for (String call : calls) {
            if (call.isEmpty() || call.equals(MAKING)) {
                text.append(call).append('\n');
                continue;
            }
            Matcher matcher = ROW.matcher(call);
            Check.isTrue("README.md gives an answer: " + call, matcher.matches());
            if (matcher.matches()) {
                addCall(text, matcher);
            }
        }
        return text.append("}\n}\n").toString();
    }

    private static void addCall(StringBuilder text, Matcher matcher) {
        String call = matcher.group(3);
        String answer = matcher.group(5).trim();
        String name = matcher.group(2);
        text.append("told.add(").append(quoted(call)).append(");\n");
        if (answer.startsWith("throws ")) {
            String thrown = answer.substring("throws ".length());
            text.append("try { told.add(").append(call).append("); }\n");
            text.append("catch (RuntimeException e) { told.add(e.getClass()); }\n");
            text.append("told.add(").append(thrown).append(".class);\n");
        } else if (name != null) {
            text.append(matcher.group(1)).append(' ').append(name).append(" = ").append(call).append(";\n");
            text.append("told.add(").append(name).append("); told.add(").append(answer).append(");\n");
        } else {
            text.append("told.add(").append(call).append("); told.add(").append(answer).append(");\n");
        }
    }

    private static String quoted(String call) {
        return '"' + call.replace("\\", "\\\\").replace("\"", "\\\"") + '"';
    }

    private static void showsEachOf(List<String> calls) {
        int methods = 0;
        for (Method method : Shrinkforge.class.getDeclaredMethods()) {
            if (java.lang.reflect.Modifier.isPublic(method.getModifiers())) {
                methods++;
                String wanted = "." + method.getName() + "(";
                Check.isTrue("README.md shows " + method.getName(), calls.stream().anyMatch(row -> row.contains(wanted)));
            }
        }
        Check.same("methods of the face", methods, 47);
    }

    /** The table of the OPs has each of them once, with its word and what it needs. */
    private static void tellsOps(List<String> rows) {
        List<String> cells = new ArrayList<>();
        for (String row : rows) {
            if (row.startsWith("| ") && !row.startsWith("| |")) {
                for (String cell : row.substring(1).split("\\|")) {
                    cells.add(cell.trim());
                }
            }
        }
        Check.same("OPs in README.md", cells.size(), 32);
        for (int op = 0; op < 32; op++) {
            String due = (op + " " + Ops.word(op) + " " + needsOf(op)).trim();
            Check.isTrue("README.md tells " + due, cells.contains(due));
        }
    }

    /** Asked of the class: what an OP does not need is 0, whatever was told. */
    private static String needsOf(int op) {
        Shrinkforge x = Ops.withEntry("");
        x.code(0, op, 7, 7);
        boolean needsA = x.instruction(0, 0, 1) == 7;
        boolean needsB = x.instruction(0, 0, 2) == 7;
        if (needsB) {
            return op >= Ops.CALL ? "class, signature" : "class, name";
        }
        if (!needsA) {
            return "";
        }
        return op == Ops.PUSH ? "number" : op <= Ops.STORE ? "variable" : op <= Ops.IF0 ? "place" : "class";
    }
}
