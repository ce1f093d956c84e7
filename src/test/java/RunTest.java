/** Promises 36 and 39 to 44: runs of the program as it was typed, and what is asked of the last one. */
final class RunTest {
    public static void main(String[] args) {
        withoutRun();
        exceptions();
        reckoning();
        objects();
        fields();
        calls();
        wrongKinds();
        orderOfKinds();
        handlers();
        beats();
        deep();
        printing();
        Check.finish("RunTest");
    }

    private static void withoutRun() {
        Shrinkforge x = new Shrinkforge();
        Check.same("out", x.out(), "");
        Check.same("trace", x.trace(), "");
        Check.same("raw", x.raw(), "");
        Check.same("result", x.result(), "");
        for (int what = 0; what < 4; what++) {
            Check.same("ofRun " + what, x.ofRun(what), 0);
        }
        Check.argument("ofRun 4", () -> x.ofRun(4));
        Check.argument("ofRun -1", () -> x.ofRun(-1));
        Check.same("begun", x.begun(0) + x.begun(-1) + x.begun(24) + x.begun(Integer.MAX_VALUE), 0);
    }

    private static void exceptions() {
        Shrinkforge x = Ops.withEntry("PUSH 3; RETURN");
        x.method(0, 1, 0, true, 0);
        Check.index("no method", () -> x.run(2, 0));
        Check.index("below", () -> x.run(-1, 0));
        Check.argument("no entry", () -> x.run(1, 0));
        Check.same("fine", x.run(0, 0), "=3");
        x.code(1, Ops.POP, 0, 0);
        Check.state("not right", () -> x.run(0, 0));
        Check.argument("argument goes ahead", () -> x.run(1, 0));
        Check.same("the last run stays", x.result(), "=3");
        Check.same("one run", x.house(5), 1);
    }

    private static void comes(String text, int told, String due) {
        Check.same(text, Ops.withEntry(text).run(0, told), due);
    }

    private static void reckoning() {
        comes("LOAD 0; RETURN", 7, "=7");
        comes("LOAD 1; RETURN", 7, "=0");
        comes("LOAD 0; PUSH 1; ADD; RETURN", Integer.MAX_VALUE, "=-2147483648");
        comes("LOAD 0; PUSH 1; SUB; RETURN", Integer.MIN_VALUE, "=2147483647");
        comes("LOAD 0; LOAD 0; MUL; RETURN", 65536, "=0");
        comes("LOAD 0; PUSH 2; DIV; RETURN", -7, "=-3");
        comes("LOAD 0; PUSH 2; REM; RETURN", -7, "=-1");
        comes("LOAD 0; PUSH -1; DIV; RETURN", Integer.MIN_VALUE, "=-2147483648");
        comes("LOAD 0; PUSH -1; REM; RETURN", Integer.MIN_VALUE, "=0");
        comes("LOAD 0; NEG; RETURN", Integer.MIN_VALUE, "=-2147483648");
        comes("LOAD 0; PUSH 3; LESS; RETURN", 2, "=1");
        comes("LOAD 0; PUSH 3; LESS; RETURN", 3, "=0");
        comes("LOAD 0; PUSH 3; SAME; RETURN", 3, "=1");
        comes("LOAD 0; NULL; SAME; RETURN", 0, "=0");
        comes("NULL; NULL; SAME; RETURN", 0, "=1");
        comes("NEW 0; NEW 0; SAME; RETURN", 0, "=0");
        comes("NEW 0; DUP; SAME; RETURN", 0, "=1");
        comes("NEW 0; PUSH 0; SAME; RETURN", 0, "=0");
        comes("LOAD 0; PUSH 9; SWAP; SUB; RETURN", 2, "=7");
        comes("LOAD 0; IF0 4; PUSH 1; RETURN; PUSH 2; RETURN", 0, "=2");
        comes("LOAD 0; IF0 4; PUSH 1; RETURN; PUSH 2; RETURN", -1, "=1");
        comes("NULL; RETURN", 0, "=null");
        comes("NEW 0; RETURN", 0, "=C0");
        comes("PUSH 1; PUSH 2; RETURN", 0, "=2");
        comes("LOAD 0; THROW", -5, "!6:-5");
        comes("LOAD 0; STORE 1; PUSH 4; STORE 0; LOAD 1; LOAD 0; SUB; NOP; RETURN", 1, "=-3");
        Shrinkforge x = new Shrinkforge();
        x.cls(-1, false);
        x.method(0, 0, 0, true, 1);
        x.entry(0, true);
        Ops.type(x, 0, "LOAD 0; RETURN");
        Check.same("what is told is not used", x.run(0, 7), "=0");
    }

    /** C0; C1 above it, NAMED, with C2; C2 an INTERFACE, NAMED; C3, NAMED not. C0.m0/1 is the ENTRY. */
    private static Shrinkforge kin(String text) {
        Shrinkforge x = new Shrinkforge();
        x.cls(-1, false);
        x.cls(0, false);
        x.cls(-1, true);
        x.cls(-1, false);
        x.implement(1, 2);
        x.named(1, true);
        x.named(2, true);
        x.method(0, 0, 1, true, 2);
        x.entry(0, true);
        Ops.type(x, 0, text);
        return x;
    }

    private static void kinComes(String text, int told, String due) {
        Check.same(text, kin(text).run(0, told), due);
    }

    private static void objects() {
        kinComes("LOAD 0; NEWBY; RETURN", 1, "=C1");
        for (int c : new int[] {0, 2, 3, 4, -1, 31, 32, 33, Integer.MIN_VALUE}) {
            kinComes("LOAD 0; NEWBY; RETURN", c, "!5");
        }
        kinComes("NULL; NEWBY; RETURN", 0, "!3");
        kinComes("NEW 1; NEWBY; RETURN", 0, "!3");
        kinComes("NEW 2; RETURN", 0, "!5");
        kinComes("NEW 3; RETURN", 0, "=C3");
        kinComes("NEW 1; CAST 0; RETURN", 0, "=C1");
        kinComes("NEW 1; CAST 2; RETURN", 0, "=C1");
        kinComes("NEW 0; CAST 1; RETURN", 0, "!4");
        kinComes("NEW 3; CAST 2; RETURN", 0, "!4");
        kinComes("NULL; CAST 1; RETURN", 0, "=null");
        kinComes("PUSH 0; CAST 0; RETURN", 0, "!3");
        kinComes("NEW 1; ISA 2; RETURN", 0, "=1");
        kinComes("NEW 0; ISA 1; RETURN", 0, "=0");
        kinComes("NULL; ISA 0; RETURN", 0, "=0");
        kinComes("PUSH 0; ISA 0; RETURN", 0, "=0");
    }

    private static Shrinkforge withFields(String text) {
        Shrinkforge x = kin(text);
        x.field(0, 0, false);
        x.field(1, 0, false);
        x.field(0, 1, true);
        x.field(1, 2, true);
        return x;
    }

    private static void fieldsCome(String text, String due) {
        Check.same(text, withFields(text).run(0, 0), due);
    }

    private static void fields() {
        fieldsCome("NEW 1; STORE 1; LOAD 1; PUSH 5; PUT 0 0; LOAD 1; GET 0 0; RETURN", "=5");
        fieldsCome("NEW 1; STORE 1; LOAD 1; PUSH 5; PUT 0 0; LOAD 1; GET 1 0; RETURN", "=0");
        fieldsCome("NEW 1; STORE 1; LOAD 1; PUSH 5; PUT 1 0; LOAD 1; PUSH 6; PUT 1 0; LOAD 1; GET 1 0; RETURN", "=6");
        fieldsCome("NEW 1; STORE 1; LOAD 1; NEW 0; PUT 1 0; LOAD 1; GET 1 0; RETURN", "=C0");
        fieldsCome("NEW 0; STORE 1; LOAD 1; PUSH 5; PUT 0 0; NEW 0; GET 0 0; RETURN", "=0");
        fieldsCome("SGET 0 1; RETURN", "=0");
        fieldsCome("PUSH 3; SPUT 1 1; SGET 0 1; RETURN", "=3");
        fieldsCome("NULL; SPUT 1 2; SGET 1 2; RETURN", "=null");
        fieldsCome("SGET 0 2; RETURN", "!5");
        fieldsCome("SGET 0 0; RETURN", "!5");
        fieldsCome("PUSH 1; SPUT 0 0; PUSH 1; RETURN", "!5");
        fieldsCome("NEW 0; GET 0 1; RETURN", "!5");
        fieldsCome("NEW 0; GET 0 63; RETURN", "!5");
        fieldsCome("NEW 0; PUSH 1; PUT 0 1; PUSH 1; RETURN", "!5");
        fieldsCome("NEW 0; GET 1 0; RETURN", "!4");
        fieldsCome("NULL; GET 0 0; RETURN", "!1");
        fieldsCome("PUSH 1; GET 0 0; RETURN", "!3");
        fieldsCome("NULL; PUSH 1; PUT 0 0; PUSH 1; RETURN", "!1");
        fieldsCome("PUSH 2; PUSH 1; PUT 0 0; PUSH 1; RETURN", "!3");
        fieldsCome("NEW 3; PUSH 1; PUT 0 0; PUSH 1; RETURN", "!4");
        Shrinkforge x = withFields("SGET 0 1; LOAD 0; SPUT 0 1; RETURN");
        Check.same("first run", x.run(0, 4), "=0");
        Check.same("static fields begin again", x.run(0, 4), "=0");
        manyObjects();
    }

    /** Each run makes 300 OBJECTS with two fields each, and reads them. */
    private static void manyObjects() {
        Shrinkforge x = new Shrinkforge();
        x.cls(-1, false);
        x.field(0, 0, false);
        x.field(0, 1, false);
        x.method(0, 0, 1, true, 2);
        x.entry(0, true);
        Ops.type(x, 0, "NEW 0; STORE 1; LOAD 1; LOAD 0; PUT 0 0; LOAD 1; PUSH 3; PUT 0 1; LOAD 2; LOAD 1; GET 0 0;"
                + " LOAD 1; GET 0 1; MUL; ADD; STORE 2; LOAD 0; PUSH 1; SUB; DUP; STORE 0; IF0 23; JUMP 0; LOAD 2; RETURN");
        for (int time = 0; time < 60; time++) {
            Check.same("many objects " + time, x.run(0, 300), "=135450");
        }
        Check.same("beats of many objects", x.ofRun(0), 299);
    }

    /** Adds C0.m1/2 = x - y, C1.m1/2 = 1, C0.m2/0 STATIC = 8, C0.m3/1 ABSTRACT. */
    private static Shrinkforge withMethods(String text) {
        Shrinkforge x = kin(text);
        x.method(0, 1, 2, false, 0);
        x.method(1, 1, 2, false, 0);
        x.method(0, 2, 0, true, 1);
        x.method(0, 3, 1, false, 0);
        Ops.type(x, 1, "LOAD 1; LOAD 2; SUB; RETURN");
        Ops.type(x, 2, "PUSH 1; RETURN");
        Ops.type(x, 3, "LOAD 0; PUSH 8; ADD; RETURN");
        return x;
    }

    private static void callsCome(String text, String due) {
        Check.same(text, withMethods(text).run(0, 0), due);
    }

    private static void calls() {
        callsCome("NEW 0; PUSH 9; PUSH 2; CALL 0 6; RETURN", "=7");
        callsCome("NEW 1; PUSH 9; PUSH 2; CALL 0 6; RETURN", "=1");
        callsCome("NEW 1; PUSH 9; PUSH 2; DCALL 0 6; RETURN", "=7");
        callsCome("NEW 1; PUSH 9; PUSH 2; DCALL 1 6; RETURN", "=1");
        callsCome("NEW 1; PUSH 9; PUSH 2; CALL 2 6; RETURN", "=1");
        callsCome("NEW 1; PUSH 9; PUSH 2; DCALL 2 6; RETURN", "!5");
        callsCome("SCALL 1 8; RETURN", "=8");
        callsCome("SCALL 3 8; RETURN", "!5");
        callsCome("PUSH 1; PUSH 2; SCALL 0 6; RETURN", "!5");
        callsCome("NEW 0; CALL 0 8; RETURN", "!5");
        callsCome("NEW 0; DCALL 0 8; RETURN", "!5");
        callsCome("NEW 0; PUSH 1; CALL 0 13; RETURN", "!5");
        callsCome("NEW 0; PUSH 1; DCALL 0 13; RETURN", "!5");
        callsCome("PUSH 1; SCALL 0 13; RETURN", "!5");
        callsCome("NEW 0; CALL 0 4; RETURN", "!5");
        callsCome("NULL; CALL 0 4; RETURN", "!1");
        callsCome("PUSH 1; CALL 0 4; RETURN", "!3");
        callsCome("NEW 3; CALL 0 4; RETURN", "!4");
        callsCome("NEW 0; PUSH 9; NULL; CALL 0 6; RETURN", "!3");
        Shrinkforge x = withMethods("NEW 0; PUSH 9; NULL; CALL 0 6; RETURN");
        x.run(0, 0);
        Check.same("trace", x.trace(), "C0.m1/2:2 C0.m0/1:3");
        Check.same("raw is trace", x.raw(), x.trace());
        Check.same("begun", x.begun(0) * 100 + x.begun(1) * 10 + x.begun(2), 110);
        Check.same("beats", x.ofRun(0), 1);
        Check.same("most", x.ofRun(2), 2);
    }

    private static void wrongKinds() {
        for (String op : new String[] {"ADD", "SUB", "MUL", "DIV", "REM", "LESS"}) {
            comes("NULL; PUSH 1; " + op + "; RETURN", 0, "!3");
            comes("PUSH 1; NEW 0; " + op + "; RETURN", 0, "!3");
        }
        comes("NULL; PUSH 0; DIV; RETURN", 0, "!3");
        comes("LOAD 0; PUSH 0; DIV; RETURN", 0, "!2");
        comes("LOAD 0; LOAD 0; REM; RETURN", 0, "!2");
        comes("NULL; NEG; RETURN", 0, "!3");
        comes("NULL; IF0 2; PUSH 1; RETURN", 0, "!3");
        comes("NULL; THROW", 0, "!3");
        comes("NEW 0; PRINT; PUSH 1; RETURN", 0, "!3");
    }

    private static void orderOfKinds() {
        kinComes("NULL; GET 3 9; RETURN", 0, "!1");
        kinComes("NEW 0; GET 3 9; RETURN", 0, "!4");
        kinComes("NULL; PUSH 1; CALL 3 9; RETURN", 0, "!1");
        kinComes("NEW 0; PUSH 1; DCALL 3 9; RETURN", 0, "!4");
        kinComes("NEW 3; PUSH 1; DCALL 3 9; RETURN", 0, "!5");
    }

    private static Shrinkforge guarded(String text, int from, int to, int handler) {
        Shrinkforge x = withMethods(text);
        x.guard(0, from, to, handler);
        return x;
    }

    private static void handlers() {
        Check.same("2", guarded("PUSH 1; LOAD 0; DIV; RETURN; RETURN", 2, 3, 4).run(0, 0), "=-2");
        Check.same("fine", guarded("PUSH 1; LOAD 0; DIV; RETURN; RETURN", 2, 3, 4).run(0, 1), "=1");
        Check.same("not in it", guarded("PUSH 1; LOAD 0; DIV; RETURN; RETURN", 0, 2, 4).run(0, 0), "!2");
        Check.same("6", guarded("LOAD 0; THROW; RETURN", 0, 2, 2).run(0, -9), "=-9");
        Check.same("3", guarded("PUSH 5; NULL; NEG; RETURN; RETURN", 0, 3, 4).run(0, 0), "=-3");
        Check.same("1", guarded("NULL; GET 0 0; RETURN; RETURN", 0, 2, 3).run(0, 0), "=-1");
        Check.same("4", guarded("NEW 3; GET 0 0; RETURN; RETURN", 0, 2, 3).run(0, 0), "=-4");
        Check.same("5", guarded("NEW 2; RETURN; RETURN", 0, 1, 2).run(0, 0), "=-5");
        Shrinkforge x = guarded("NEW 0; PUSH 9; NULL; CALL 0 6; RETURN; RETURN", 3, 4, 5);
        Check.same("of what was called", x.run(0, 0), "=-3");
        Check.same("trace", x.trace(), "");
        Check.same("beats", x.ofRun(0), 2);
        x.guard(1, 2, 3, 3);
        Check.same("caught in it", x.run(0, 0), "=-3");
        Check.same("no handler of the caller", x.ofRun(0), 2);
        Shrinkforge y = guarded("LOAD 0; THROW; PRINT; PUSH 1; RETURN; PRINT; PUSH 2; RETURN", 0, 2, 2);
        y.guard(0, 1, 2, 5);
        Check.same("the first of two", y.run(0, 3), "=1");
        Check.same("out", y.out(), "3");
        Shrinkforge z = guarded("LOAD 0; THROW; RETURN", 0, 1, 2);
        z.guard(0, 1, 2, 2);
        Check.same("the second", z.run(0, 3), "=3");
        Shrinkforge v = guarded("PUSH 0; NULL; NEG; RETURN; NULL; NEG; RETURN", 0, 3, 4);
        Check.same("in a handler", v.run(0, 0), "!3");
        Check.same("where", v.trace(), "C0.m0/1:5");
    }

    private static void beats() {
        Shrinkforge x = Ops.withEntry("JUMP 0");
        Check.same("open", x.run(0, 0), "?");
        Check.same("300", x.ofRun(0), 300);
        Check.same("no trace", x.trace() + x.raw(), "");
        String count = "LOAD 1; PUSH 1; ADD; DUP; STORE 1; LOAD 0; LESS; IF0 9; JUMP 0; LOAD 1; RETURN";
        Shrinkforge y = Ops.withEntry(count);
        Check.same("300 beats are made", y.run(0, 301), "=301");
        Check.same("beats", y.ofRun(0), 300);
        Check.same("one more is not", y.run(0, 302), "?");
        Shrinkforge z = Ops.withEntry("LOAD 0; PUSH 1; SUB; DUP; STORE 0; IF0 8; PUSH 0; IF0 0; LOAD 0; RETURN");
        Check.same("IF0 back", z.run(0, 5), "=0");
        Check.same("beats of IF0", z.ofRun(0), 4);
        Shrinkforge v = Ops.withEntry("PUSH 0; THROW; IF0 0; PUSH 1; RETURN");
        v.guard(0, 0, 2, 2);
        Check.same("no guard sees it", v.run(0, 0), "?");
        Check.same("handlers beat", v.ofRun(0), 300);
        Shrinkforge w = Ops.withEntry("JUMP 1; LOAD 0; IF0 3; PUSH 1; RETURN");
        w.run(0, 0);
        Check.same("ahead is none", w.ofRun(0), 0);
        Shrinkforge u = Ops.withEntry("LOAD 1; PUSH 300; SAME; IF0 6; PUSH 0; THROW; LOAD 1; PUSH 1; ADD; STORE 1; JUMP 0; RETURN");
        u.guard(0, 5, 6, 11);
        Check.same("a handler with 300 made", u.run(0, 0), "?");
        Check.same("open has 300", u.ofRun(0), 300);
    }

    private static void deep() {
        Shrinkforge x = Ops.withEntry("LOAD 0; IF0 7; LOAD 0; PUSH -1; ADD; SCALL 0 1; RETURN; PUSH 5; RETURN");
        Check.same("12 going on", x.run(0, 11), "=5");
        Check.same("most", x.ofRun(2), 12);
        Check.same("begun", x.begun(0), 12);
        Check.same("a 13th", x.run(0, 12), "!7");
        Check.same("no beat", x.ofRun(0), 11);
        Check.same("twelve in the trace", x.trace().split(" ").length, 12);
        Check.same("at the call", x.trace().substring(0, 9), "C0.m0/1:5");
        x.guard(0, 5, 6, 8);
        Check.same("caught", x.run(0, 12), "=-7");
        Check.same("11 calls and a handler", x.ofRun(0), 12);
        Shrinkforge y = withMethods("LOAD 0; SCALL 0 1; RETURN");
        y.change(0, 1, Ops.SCALL, 0, 1);
        Check.same("without an end", y.run(0, 0), "!7");
    }

    private static void printing() {
        String text = "LOAD 1; PRINT; LOAD 1; PUSH 1; ADD; DUP; STORE 1; LOAD 0; LESS; IF0 11; JUMP 0; PUSH 0; RETURN";
        Shrinkforge x = Ops.withEntry(text);
        x.run(0, 60);
        Check.same("60", x.ofRun(1), 60);
        String sixty = x.out();
        Check.same("the last", sixty.substring(sixty.length() - 6), " 58 59");
        x.run(0, 70);
        Check.same("70", x.ofRun(1), 70);
        Check.same("the first 60", x.out(), sixty);
        x.run(0, 1);
        Check.same("one", x.out(), "0");
        Check.same("shrunk", x.ofRun(3), 0);
        Check.same("runs", x.house(5), 3);
    }
}
