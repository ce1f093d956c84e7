/** Promises 1 to 13: a new object, and typing a program. */
final class TypingTest {
    public static void main(String[] args) {
        newObject();
        classes();
        interfacesOfClasses();
        namedOnes();
        fields();
        methods();
        instructions();
        changes();
        cuts();
        guards();
        entries();
        samples();
        wiping();
        Check.finish("TypingTest");
    }

    private static void newObject() {
        Shrinkforge x = new Shrinkforge();
        for (int what = 0; what <= 7; what++) {
            Check.same("new house " + what, x.house(what), 0);
        }
        Check.same("new right", x.areRight(), false);
        Check.same("new result", x.result(), "");
        Check.index("new class", () -> x.ofClass(0, 0));
        Check.index("new field", () -> x.ofField(0, 0));
        Check.index("new method", () -> x.ofMethod(0, 0));
        Check.state("new map", x::map);
        Check.same("new shrink", x.shrink(), -9);
    }

    private static void classes() {
        Shrinkforge x = new Shrinkforge();
        Check.argument("no super 0", () -> x.cls(0, false));
        Check.argument("no super -2", () -> x.cls(-2, false));
        Check.argument("no super 31", () -> x.cls(31, false));
        Check.argument("no super 32", () -> x.cls(32, false));
        Check.same("cls", x.cls(-1, false), 0);
        Check.same("cls interface", x.cls(-1, true), 1);
        Check.argument("super of an interface", () -> x.cls(0, true));
        Check.argument("interface as super", () -> x.cls(1, false));
        Check.argument("itself as super", () -> x.cls(2, false));
        Check.argument("lowest", () -> x.cls(Integer.MIN_VALUE, false));
        Check.argument("highest", () -> x.cls(Integer.MAX_VALUE, false));
        for (int c = 2; c < 8; c++) {
            Check.same("cls " + c, x.cls(c == 2 ? 0 : c - 1, false), c);
            Check.same("super " + c, x.ofClass(c, 0), c == 2 ? 0 : c - 1);
        }
        Check.state("a ninth", () -> x.cls(-1, false));
        Check.state("a ninth interface", () -> x.cls(-1, true));
        Check.argument("argument goes ahead", () -> x.cls(8, false));
        Check.argument("argument goes ahead", () -> x.cls(0, true));
        Check.same("eight", x.house(0), 8);
    }

    private static void interfacesOfClasses() {
        Shrinkforge x = new Shrinkforge();
        x.cls(-1, false);
        for (int i = 0; i < 3; i++) {
            x.cls(-1, true);
        }
        Check.index("no class", () -> x.implement(4, 1));
        Check.index("no other", () -> x.implement(0, 4));
        Check.index("below", () -> x.implement(-1, 1));
        Check.index("both wrong", () -> x.implement(1, -1));
        Check.argument("an interface", () -> x.implement(1, 2));
        Check.argument("other is none", () -> x.implement(0, 0));
        Check.same("first", x.implement(0, 3), 1);
        Check.argument("twice", () -> x.implement(0, 3));
        Check.same("second", x.implement(0, 1), 2);
        Check.same("set", x.ofClass(0, 3), 8 + 2);
        Check.argument("twice, and full", () -> x.implement(0, 1));
        Check.state("full", () -> x.implement(0, 2));
        Check.same("set stays", x.ofClass(0, 3), 10);
    }

    private static void namedOnes() {
        Shrinkforge x = new Shrinkforge();
        Check.index("no class", () -> x.named(0, true));
        x.cls(-1, false);
        x.cls(-1, true);
        Check.same("was not", x.named(0, true), false);
        Check.same("was", x.named(0, true), true);
        Check.same("is", x.ofClass(0, 2), 1);
        Check.same("was", x.named(0, false), true);
        Check.same("is not", x.ofClass(0, 2), 0);
        Check.same("an interface too", x.named(1, true), false);
        Check.same("an interface is", x.ofClass(1, 2), 1);
        Check.index("below", () -> x.named(-1, true));
    }

    private static void fields() {
        Shrinkforge x = new Shrinkforge();
        x.cls(-1, false);
        x.cls(0, false);
        x.cls(-1, true);
        Check.index("no class", () -> x.field(3, 0, false));
        Check.index("no class goes ahead", () -> x.field(-1, 10, false));
        Check.argument("name -1", () -> x.field(0, -1, false));
        Check.argument("name 10", () -> x.field(0, 10, false));
        Check.argument("interface", () -> x.field(2, 0, true));
        Check.same("field", x.field(0, 9, false), 0);
        Check.argument("name twice", () -> x.field(0, 9, true));
        Check.same("name in another class", x.field(1, 9, true), 1);
        for (int name = 0; name < 9; name++) {
            Check.same("field " + name, x.field(0, name, false), 2 + name);
        }
        for (int name = 0; name < 5; name++) {
            Check.same("more " + name, x.field(1, name, false), 11 + name);
        }
        Check.state("a 17th", () -> x.field(1, 5, false));
        Check.argument("argument goes ahead", () -> x.field(1, 4, false));
        Check.same("sixteen", x.house(1), 16);
    }

    private static void methods() {
        Shrinkforge x = new Shrinkforge();
        x.cls(-1, false);
        x.cls(-1, true);
        Check.index("no class", () -> x.method(2, 16, 0, false, 0));
        Check.argument("name -1", () -> x.method(0, -1, 0, false, 0));
        Check.argument("name 16", () -> x.method(0, 16, 0, false, 0));
        Check.argument("arity -1", () -> x.method(0, 0, -1, false, 0));
        Check.argument("arity 4", () -> x.method(0, 0, 4, false, 0));
        Check.argument("locals -1", () -> x.method(0, 0, 0, false, -1));
        Check.argument("locals 5", () -> x.method(0, 0, 0, false, 5));
        Check.same("method", x.method(0, 15, 3, false, 4), 0);
        Check.argument("signature twice", () -> x.method(0, 15, 3, true, 0));
        Check.same("other arity", x.method(0, 15, 2, true, 0), 1);
        Check.same("of an interface", x.method(1, 15, 3, false, 0), 2);
        Check.same("abstract", x.ofMethod(0, 5), 0);
        for (int m = 3; m < 24; m++) {
            Check.same("method " + m, x.method(0, (m - 3) / 4, m % 4, false, 0), m);
        }
        Check.state("a 25th", () -> x.method(0, 14, 0, false, 0));
        Check.argument("argument goes ahead", () -> x.method(0, 15, 3, false, 0));
        Check.same("twenty-four", x.house(2), 24);
    }

    private static void instructions() {
        Shrinkforge x = Ops.withEntry("");
        Check.index("no method", () -> x.code(1, 32, 0, 0));
        Check.index("below", () -> x.code(-1, 0, 0, 0));
        Check.argument("op 32", () -> x.code(0, 32, 0, 0));
        Check.argument("op -1", () -> x.code(0, -1, 0, 0));
        Check.argument("b 64", () -> x.code(0, 0, 0, 64));
        Check.argument("b -1", () -> x.code(0, 31, 0, -1));
        for (int op = 0; op < 32; op++) {
            Shrinkforge y = Ops.withEntry("");
            Check.same("code " + op, y.code(0, op, 7, 9), 1);
            Check.same("op " + op, y.instruction(0, 0, 0), op);
            Check.same("a " + op, y.instruction(0, 0, 1), Model.needsA(op) ? 7 : 0);
            Check.same("b " + op, y.instruction(0, 0, 2), Model.needsB(op) ? 9 : 0);
        }
        for (int n = 1; n <= 30; n++) {
            Check.same("code " + n, x.code(0, 0, Integer.MIN_VALUE + n, 63), n);
        }
        Check.state("a 31st", () -> x.code(0, 0, 0, 0));
        Check.argument("argument goes ahead", () -> x.code(0, 0, 0, 64));
        Check.same("thirty", x.house(3), 30);
    }

    private static void changes() {
        Shrinkforge x = Ops.withEntry("PUSH 1; RETURN");
        Check.index("no method", () -> x.change(1, 0, 0, 0, 0));
        Check.index("no place", () -> x.change(0, 2, 32, 0, 0));
        Check.index("place -1", () -> x.change(0, -1, 0, 0, 0));
        Check.argument("op 32", () -> x.change(0, 0, 32, 0, 0));
        Check.argument("b 64", () -> x.change(0, 0, 0, 0, 64));
        Check.same("change", x.change(0, 0, 23, -5, 6), 0);
        Check.same("op", x.instruction(0, 0, 0), 23);
        Check.same("a", x.instruction(0, 0, 1), -5);
        Check.same("b", x.instruction(0, 0, 2), 6);
        Check.same("change again", x.change(0, 0, 16, 5, 5), 23);
        Check.same("not needed", x.instruction(0, 0, 1) + x.instruction(0, 0, 2), 0);
        Check.same("how many", x.ofMethod(0, 5), 2);
    }

    private static void cuts() {
        Shrinkforge x = Ops.withEntry("PUSH 1; PUSH 2; ADD; RETURN");
        x.guard(0, 0, 1, 2);
        Check.index("no method", () -> x.cut(1, 99));
        Check.argument("too many", () -> x.cut(0, 5));
        Check.argument("below", () -> x.cut(0, -1));
        Check.same("guard stays", x.ofMethod(0, 6), 1);
        Check.same("cut 0", x.cut(0, 0), 4);
        Check.same("guards are gone", x.ofMethod(0, 6), 0);
        Check.same("cut 3", x.cut(0, 3), 1);
        Check.same("the first is left", x.instruction(0, 0, 0), 0);
        Check.index("place is gone", () -> x.instruction(0, 1, 0));
        Check.same("behind it again", x.code(0, 29, 0, 0), 2);
        Check.same("op", x.instruction(0, 1, 0), 29);
        Check.same("all", x.cut(0, 2), 0);
        Check.same("still an entry", x.ofMethod(0, 7), 1);
        Check.same("none of none", x.cut(0, 0), 0);
    }

    private static void guards() {
        Shrinkforge x = Ops.withEntry("PUSH 1; RETURN");
        Check.index("no method", () -> x.guard(1, -1, 0, 0));
        Check.argument("from -1", () -> x.guard(0, -1, 0, 0));
        Check.argument("from 31", () -> x.guard(0, 31, 0, 0));
        Check.argument("to -1", () -> x.guard(0, 0, -1, 0));
        Check.argument("to 31", () -> x.guard(0, 0, 31, 0));
        Check.argument("handler -1", () -> x.guard(0, 0, 1, -1));
        Check.argument("handler 31", () -> x.guard(0, 0, 1, 31));
        Check.same("first", x.guard(0, 30, 0, 30), 1);
        Check.same("second", x.guard(0, 0, 30, 0), 2);
        Check.state("a third", () -> x.guard(0, 0, 1, 1));
        Check.argument("argument goes ahead", () -> x.guard(0, 31, 1, 1));
        Check.same("two", x.ofMethod(0, 6), 2);
    }

    private static void entries() {
        Shrinkforge x = Ops.withEntry("PUSH 1; RETURN");
        x.method(0, 1, 2, true, 0);
        x.method(0, 2, 0, false, 0);
        x.method(0, 3, 0, true, 0);
        Check.index("no method", () -> x.entry(4, true));
        Check.argument("arity 2", () -> x.entry(1, true));
        Check.argument("not static", () -> x.entry(2, false));
        Check.same("was not", x.entry(3, true), false);
        Check.same("is", x.ofMethod(3, 7), 1);
        Check.same("was", x.entry(3, false), true);
        Check.same("is not", x.ofMethod(3, 7), 0);
        Check.same("first was", x.entry(0, true), true);
    }

    private static void samples() {
        Shrinkforge x = Ops.withEntry("PUSH 1; RETURN");
        x.shrink();
        Check.argument("sample -1", () -> x.sample(-1));
        Check.argument("sample 4", () -> x.sample(4));
        Check.same("nothing is other", x.house(2), 1);
        int[] methods = {4, 1, 3, 5};
        int[] classes = {3, 1, 1, 4};
        int[] fields = {0, 0, 0, 4};
        int[] all = {13, 19, 14, 25};
        for (int k = 0; k < 4; k++) {
            Check.same("sample " + k, x.sample(k), methods[k]);
            Check.same("classes " + k, x.house(0), classes[k]);
            Check.same("fields " + k, x.house(1), fields[k]);
            Check.same("instructions " + k, x.house(3), all[k]);
            Check.isTrue("right " + k, x.areRight());
        }
        Check.same("shrunk stays", x.map(), "C0>C0: m0/1>m0;");
        sampleRuns();
        sampleMaking(x);
        sampleTexts(x);
    }

    /** All that can be asked of a program as one text. */
    private static String told(Shrinkforge x) {
        StringBuilder text = new StringBuilder();
        for (int c = 0; c < x.house(0); c++) {
            text.append("C").append(c);
            for (int what = 0; what < 4; what++) {
                text.append(' ').append(x.ofClass(c, what));
            }
            text.append("; ");
        }
        for (int f = 0; f < x.house(1); f++) {
            text.append("F");
            for (int what = 0; what < 3; what++) {
                text.append(' ').append(x.ofField(f, what));
            }
            text.append("; ");
        }
        for (int m = 0; m < x.house(2); m++) {
            text.append("M");
            for (int what = 0; what < 8; what++) {
                text.append(' ').append(x.ofMethod(m, what));
            }
            text.append(": ");
            for (int place = 0; place < x.ofMethod(m, 5); place++) {
                text.append(Ops.word(x.instruction(m, place, 0))).append(' ').append(x.instruction(m, place, 1));
                text.append(' ').append(x.instruction(m, place, 2)).append("; ");
            }
        }
        return text.toString();
    }

    private static void sampleTexts(Shrinkforge x) {
        x.sample(0);
        Check.same("sample 0", told(x), "C0 -1 0 0 0; C1 0 0 0 0; C2 0 0 0 0; M 0 0 1 1 0 7 0 1: LOAD 0 0; IF0 4 0; NEW 0 0;"
                + " JUMP 5 0; NEW 1 0; CALL 0 4; RETURN 0 0; M 0 1 0 0 0 2 0 0: PUSH 1 0; RETURN 0 0;"
                + " M 1 1 0 0 0 2 0 0: PUSH 2 0; RETURN 0 0; M 2 1 0 0 0 2 0 0: PUSH 3 0; RETURN 0 0; ");
        x.sample(1);
        Check.same("sample 1", told(x), "C0 -1 0 0 0; M 0 0 1 1 1 19 0 1: PUSH 2 0; PUSH 3 0; ADD 0 0; STORE 1 0;"
                + " LOAD 1 0; IF0 13 0; LOAD 1 0; PRINT 0 0; LOAD 1 0; PUSH -1 0; ADD 0 0; STORE 1 0; JUMP 4 0; PUSH 0 0;"
                + " IF0 17 0; PUSH 9 0; PRINT 0 0; LOAD 0 0; RETURN 0 0; ");
        x.sample(2);
        Check.same("sample 2", told(x), "C0 -1 0 0 0; M 0 0 1 1 0 6 1 1: LOAD 0 0; SCALL 0 5; RETURN 0 0; PRINT 0 0;"
                + " PUSH -1 0; RETURN 0 0; M 0 1 1 1 0 4 0 0: PUSH 10 0; LOAD 0 0; DIV 0 0; RETURN 0 0;"
                + " M 0 2 1 1 0 4 0 1: NOP 0 0; LOAD 0 0; SCALL 0 5; RETURN 0 0; ");
        x.sample(3);
        Check.same("sample 3", told(x), "C0 -1 0 0 0; C1 0 0 1 0; C2 -1 1 0 0; C3 0 0 1 4; F 0 0 0; F 0 1 0; F 1 0 0; F 0 2 1;"
                + " M 0 0 1 1 1 19 0 1: LOAD 0 0; NEWBY 0 0; STORE 1 0; LOAD 1 0; PUSH 7 0; PUT 0 0; LOAD 1 0; PUSH 4 0;"
                + " PUT 0 1; PUSH 2 0; SPUT 0 2; LOAD 1 0; GET 0 0; LOAD 1 0; PUSH 5 0; PUSH 6 0; CALL 2 6; SUB 0 0;"
                + " RETURN 0 0; M 2 1 2 0 0 0 0 0: M 3 1 2 0 0 4 0 0: LOAD 1 0; LOAD 2 0; MUL 0 0; RETURN 0 0;"
                + " M 2 3 1 0 0 0 0 0: M 3 1 1 0 0 2 0 0: PUSH 1 0; RETURN 0 0; ");
    }

    private static void sampleRuns() {
        Shrinkforge x = new Shrinkforge();
        x.sample(0);
        Check.same("animal 0", x.run(0, 0), "=2");
        Check.same("animal 1", x.run(0, 1), "=1");
        x.sample(1);
        Check.same("counting", x.run(0, 8), "=8");
        Check.same("counted", x.out(), "5 4 3 2 1");
        x.sample(2);
        Check.same("10 / 3", x.run(0, 3), "=3");
        Check.same("10 / 0", x.run(0, 0), "=-1");
        Check.same("out", x.out(), "-2");
        Check.same("10 / 0 without a guard", x.run(2, 0), "!2");
        Check.same("trace", x.trace(), "C0.m1/1:2 C0.m2/1:2");
        Check.same("guards", x.ofMethod(0, 6), 1);
        Check.same("second entry", x.ofMethod(2, 7), 1);
        x.sample(3);
        Check.same("made 3", x.run(0, 3), "=-23");
        Check.same("made 1", x.run(0, 1), "!4");
        Check.same("made 0", x.run(0, 0), "!5");
    }

    private static void sampleMaking(Shrinkforge x) {
        x.sample(3);
        Check.same("super 3", x.ofClass(3, 0), 0);
        Check.same("interfaces 3", x.ofClass(3, 3), 4);
        Check.same("named", x.ofClass(1, 2) * 8 + x.ofClass(3, 2) * 4 + x.ofClass(0, 2) + x.ofClass(2, 2), 12);
        Check.same("interface", x.ofClass(2, 1), 1);
        Check.same("field 3", x.ofField(3, 0) * 100 + x.ofField(3, 1) * 10 + x.ofField(3, 2), 21);
        Check.same("field 2", x.ofField(2, 0) * 100 + x.ofField(2, 1) * 10 + x.ofField(2, 2), 100);
        Check.same("abstract", x.ofMethod(1, 5) + x.ofMethod(3, 5), 0);
        Check.same("m3/1", x.ofMethod(3, 1) * 10 + x.ofMethod(3, 2), 31);
        Check.same("locals", x.ofMethod(0, 4), 1);
        Check.same("call", x.instruction(0, 16, 0) * 100 + x.instruction(0, 16, 1) * 10, 2320);
        Check.same("call b", x.instruction(0, 16, 2), 6);
    }

    private static void wiping() {
        Shrinkforge x = new Shrinkforge();
        Check.same("nothing to wipe", x.wipe(), 0);
        x.sample(2);
        x.run(2, 0);
        x.shrink();
        x.runShrunk(0, 1);
        x.run(2, 0);
        x.knock();
        Check.same("wipe", x.wipe(), 3);
        for (int what = 0; what <= 4; what++) {
            Check.same("house " + what, x.house(what), 0);
        }
        Check.same("runs stay", x.house(5), 3);
        Check.same("shrinks stay", x.house(6), 1);
        Check.same("knocks stay", x.house(7), 1);
        Check.same("the last run stays", x.result() + x.trace(), "!2C0.m1/1:2 C0.m2/1:2");
        Check.same("begun stays", x.begun(1), 1);
        Check.state("nothing shrunk", x::again);
        Check.same("typing again", x.cls(-1, false), 0);
        Check.same("no old code", x.method(0, 0, 0, true, 0) + x.ofMethod(0, 5) + x.ofMethod(0, 6), 0);
        Check.same("no old fields", x.field(0, 0, false), 0);
        Check.same("no old names", x.ofClass(0, 2) + x.ofClass(0, 3), 0);
    }
}
