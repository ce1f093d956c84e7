/** Promises 14 to 20: what is asked of a program as it was typed. */
final class AskingTest {
    public static void main(String[] args) {
        ofClasses();
        ofFields();
        ofMethods();
        ofInstructions();
        kinds();
        found();
        Check.finish("AskingTest");
    }

    private static void ofClasses() {
        Shrinkforge x = new Shrinkforge();
        x.sample(3);
        Check.index("no class", () -> x.ofClass(4, 9));
        Check.index("below", () -> x.ofClass(-1, 0));
        Check.argument("what -1", () -> x.ofClass(0, -1));
        Check.argument("what 6", () -> x.ofClass(0, 6));
        int[][] due = {{-1, 0, 0, 0, 1, 3}, {0, 0, 1, 0, 0, 1}, {-1, 1, 0, 0, 2, 0}, {0, 0, 1, 4, 2, 0}};
        for (int c = 0; c < 4; c++) {
            for (int what = 0; what < 6; what++) {
                Check.same("class " + c + " " + what, x.ofClass(c, what), due[c][what]);
            }
        }
    }

    private static void ofFields() {
        Shrinkforge x = new Shrinkforge();
        x.cls(-1, false);
        x.cls(-1, false);
        x.field(1, 7, true);
        Check.index("no field", () -> x.ofField(1, 3));
        Check.index("below", () -> x.ofField(-1, 0));
        Check.argument("what 3", () -> x.ofField(0, 3));
        Check.argument("what -1", () -> x.ofField(0, -1));
        Check.same("class", x.ofField(0, 0), 1);
        Check.same("name", x.ofField(0, 1), 7);
        Check.same("static", x.ofField(0, 2), 1);
        x.field(0, 7, false);
        Check.same("not static", x.ofField(1, 2), 0);
    }

    private static void ofMethods() {
        Shrinkforge x = new Shrinkforge();
        x.cls(-1, false);
        x.cls(-1, false);
        x.method(1, 15, 3, false, 4);
        x.method(0, 4, 1, true, 2);
        x.entry(1, true);
        x.code(1, 1, 0, 0);
        x.code(1, 29, 0, 0);
        x.guard(1, 0, 1, 1);
        Check.index("no method", () -> x.ofMethod(2, 8));
        Check.index("below", () -> x.ofMethod(-1, 0));
        Check.argument("what 8", () -> x.ofMethod(0, 8));
        Check.argument("what -1", () -> x.ofMethod(0, -1));
        int[][] due = {{1, 15, 3, 0, 4, 0, 0, 0}, {0, 4, 1, 1, 2, 2, 1, 1}};
        for (int m = 0; m < 2; m++) {
            for (int what = 0; what < 8; what++) {
                Check.same("method " + m + " " + what, x.ofMethod(m, what), due[m][what]);
            }
        }
    }

    private static void ofInstructions() {
        Shrinkforge x = Ops.withEntry("PUSH -7; CALL 3 63; RETURN");
        Check.index("no method", () -> x.instruction(1, 0, 0));
        Check.index("no place goes ahead", () -> x.instruction(0, 3, 3));
        Check.index("place -1", () -> x.instruction(0, -1, 0));
        Check.argument("what 3", () -> x.instruction(0, 0, 3));
        Check.argument("what -1", () -> x.instruction(0, 0, -1));
        Check.same("a", x.instruction(0, 0, 1), -7);
        Check.same("op", x.instruction(0, 1, 0), 23);
        Check.same("a of a call", x.instruction(0, 1, 1), 3);
        Check.same("b of a call", x.instruction(0, 1, 2), 63);
    }

    /** C0; C1 above it has C3 (an interface that came later); C2 above C1; C4 has C3 and C5. */
    private static Shrinkforge family() {
        Shrinkforge x = new Shrinkforge();
        x.cls(-1, false);
        x.cls(0, false);
        x.cls(1, false);
        x.cls(-1, true);
        x.cls(-1, false);
        x.cls(-1, true);
        x.implement(1, 3);
        x.implement(4, 3);
        x.implement(4, 5);
        return x;
    }

    private static void kinds() {
        Shrinkforge x = family();
        boolean[][] due = new boolean[6][6];
        int[][] kinds = {{0}, {1, 0, 3}, {2, 1, 0, 3}, {3}, {4, 3, 5}, {5}};
        for (int c = 0; c < 6; c++) {
            for (int k : kinds[c]) {
                due[c][k] = true;
            }
            for (int k = 0; k < 6; k++) {
                Check.same("isA " + c + " " + k, x.isA(c, k), due[c][k]);
            }
        }
        Check.index("no class", () -> x.isA(6, 0));
        Check.index("no other", () -> x.isA(0, 6));
        Check.index("below", () -> x.isA(-1, 0));
        Check.index("other below", () -> x.isA(0, -1));
    }

    private static void found() {
        Shrinkforge x = family();
        x.method(0, 1, 0, false, 0);
        x.method(2, 1, 0, true, 0);
        x.method(3, 2, 1, false, 0);
        x.field(0, 5, false);
        x.field(2, 5, true);
        x.field(1, 6, true);
        int[] methods = {0, 0, 1, -1, -1, -1};
        int[] fields = {0, 0, 1, -1, -1, -1};
        for (int c = 0; c < 6; c++) {
            Check.same("method from " + c, x.findMethod(c, 4), methods[c]);
            Check.same("field from " + c, x.findField(c, 5), fields[c]);
        }
        Check.same("not in interfaces", x.findMethod(1, 9), -1);
        Check.same("of an interface itself", x.findMethod(3, 9), 2);
        Check.same("other arity", x.findMethod(0, 5), -1);
        Check.same("from below", x.findField(2, 6), 2);
        Check.index("no class", () -> x.findMethod(6, 64));
        Check.index("no class", () -> x.findField(6, 10));
        Check.argument("signature 64", () -> x.findMethod(0, 64));
        Check.argument("signature -1", () -> x.findMethod(0, -1));
        Check.argument("name 10", () -> x.findField(0, 10));
        Check.argument("name -1", () -> x.findField(0, -1));
    }
}
