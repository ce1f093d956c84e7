/** Promises 26 and 28 to 35: shrinking, what is KEPT, the new names and lines. */
final class ShrinkTest {
    public static void main(String[] args) {
        withoutShrunk();
        wrongInputs();
        methodsKept();
        madeClasses();
        keptButNeverBegun();
        fieldsKept();
        classesKept();
        classNames();
        familyNames();
        fieldNames();
        lines();
        called();
        origins();
        stays();
        samples();
        Check.finish("ShrinkTest");
    }

    private static void withoutShrunk() {
        Shrinkforge x = Ops.withEntry("PUSH 1; RETURN");
        Check.state("isKept", () -> x.isKept(3, 0));
        Check.state("newName", () -> x.newName(3, 0));
        Check.state("lines", () -> x.lines(0));
        Check.state("line", () -> x.line(0, 0));
        Check.state("origin", () -> x.origin(0, 0));
        Check.state("map", x::map);
        Check.state("called", () -> x.called(0, 26, 4));
        Check.state("ofShrunk", () -> x.ofShrunk(6));
        x.shrink();
        x.wipe();
        Check.state("wiped", () -> x.lines(0));
    }

    private static void wrongInputs() {
        Shrinkforge x = Ops.withEntry("PUSH 1; RETURN");
        x.field(0, 0, false);
        Check.same("one method", x.shrink(), 1);
        Check.argument("isKept 3", () -> x.isKept(3, 0));
        Check.argument("isKept -1", () -> x.isKept(-1, 0));
        Check.argument("newName 3", () -> x.newName(3, 0));
        Check.argument("newName -1", () -> x.newName(-1, 0));
        Check.argument("letter 26", () -> x.called(0, 26, 0));
        Check.argument("letter -1", () -> x.called(0, -1, 0));
        Check.argument("arity 4", () -> x.called(0, 0, 4));
        Check.argument("arity -1", () -> x.called(9, 0, -1));
        Check.argument("ofShrunk 6", () -> x.ofShrunk(6));
        Check.argument("ofShrunk -1", () -> x.ofShrunk(-1));
        for (int number : new int[] {-1, 1, 24, 31, 32, 33, Integer.MAX_VALUE, Integer.MIN_VALUE}) {
            for (int what = 0; what < 3; what++) {
                Check.same("kept " + what + " " + number, x.isKept(what, number), false);
                Check.same("name " + what + " " + number, x.newName(what, number), "");
            }
            Check.same("lines " + number, x.lines(number), -1);
            Check.same("line " + number, x.line(number, 0), "");
            Check.same("origin " + number, x.origin(number, 0), -1);
            Check.same("called " + number, x.called(number, 0, 0), -1);
        }
        Check.same("line -1", x.line(0, -1) + x.line(0, 2), "");
        Check.same("origin -1", x.origin(0, -1), -1);
        Check.same("origin behind", x.origin(0, 2), -1);
    }

    private static void methodsKept() {
        Shrinkforge x = Ops.withEntry("NEW 1; POP; SCALL 0 4; RETURN");
        x.cls(0, false);
        x.cls(0, false);
        x.method(0, 1, 0, true, 0);
        x.method(0, 2, 0, false, 0);
        x.method(1, 2, 0, false, 0);
        x.method(2, 2, 0, false, 0);
        x.method(0, 3, 0, true, 0);
        x.method(0, 4, 0, true, 0);
        Ops.type(x, 1, "NEW 1; CALL 0 8; RETURN");
        Ops.type(x, 2, "PUSH 1; RETURN");
        Ops.type(x, 3, "NEW 1; DCALL 0 8; RETURN");
        Ops.type(x, 4, "PUSH 3; RETURN");
        Ops.type(x, 5, "NEW 2; RETURN");
        Ops.type(x, 6, "SCALL 0 16; RETURN");
        Check.same("shrink", x.shrink(), 4);
        boolean[] due = {true, true, true, true, false, false, false};
        for (int m = 0; m < due.length; m++) {
            Check.same("kept " + m, x.isKept(1, m), due[m]);
        }
        Check.same("class 2 is not", x.isKept(0, 2), false);
        Check.same("counts", x.ofShrunk(0) * 100 + x.ofShrunk(1) * 10 + x.ofShrunk(2), 240);
        Check.same("lines", x.ofShrunk(3), 4 + 3 + 2 + 3);
        Check.same("made", x.ofShrunk(4), 1);
        Check.same("families", x.ofShrunk(5), 3);
        Check.same("a kept one's lines", x.lines(3), 3);
        Check.same("not kept", x.lines(4), -1);
    }

    private static void madeClasses() {
        Shrinkforge x = Ops.withEntry("LOAD 0; NEWBY; CALL 0 4; RETURN");
        x.cls(0, false);
        x.cls(0, false);
        x.cls(-1, false);
        for (int c = 0; c < 4; c++) {
            x.method(c, 1, 0, false, 0);
            Ops.type(x, c + 1, "PUSH 1; RETURN");
        }
        x.named(1, true);
        x.named(3, true);
        Check.same("shrink", x.shrink(), 2);
        Check.same("of a NAMED class", x.isKept(1, 2), true);
        Check.same("not NAMED", x.isKept(1, 3), false);
        Check.same("NAMED, but not a C0", x.isKept(1, 4), false);
        Check.same("NAMED is kept", x.isKept(0, 3), true);
        Check.same("made", x.ofShrunk(4), 2);
        Shrinkforge y = Ops.withEntry("PUSH 0; IF0 4; NEW 1; POP; NEW 0; CALL 0 4; RETURN");
        y.cls(0, false);
        y.method(0, 1, 0, false, 0);
        y.method(1, 1, 0, false, 0);
        Ops.type(y, 1, "PUSH 1; RETURN");
        Ops.type(y, 2, "PUSH 2; RETURN");
        Check.same("a NEW that is never come to", y.shrink(), 2);
        Shrinkforge z = Ops.withEntry("NULL; CALL 0 4; POP; NEW 1; RETURN");
        z.cls(0, false);
        z.method(1, 1, 0, false, 0);
        Ops.type(z, 1, "PUSH 2; RETURN");
        Check.same("a NEW behind the CALL", z.shrink(), 2);
        Check.same("not kept", y.isKept(0, 1), false);
    }

    private static void keptButNeverBegun() {
        Shrinkforge x = Ops.withEntry("NEW 0; CALL 0 4; NEW 0; DCALL 0 8; SCALL 0 12; RETURN");
        x.method(0, 1, 0, true, 0);
        x.method(0, 2, 0, false, 0);
        x.method(0, 3, 0, false, 0);
        x.method(0, 4, 0, true, 0);
        Ops.type(x, 1, "SCALL 0 16; RETURN");
        Ops.type(x, 3, "PUSH 1; RETURN");
        Ops.type(x, 4, "PUSH 1; RETURN");
        Check.same("static, abstract, not static, and what the first calls", x.shrink(), 5);
        Check.same("abstract has no lines", x.lines(2), 0);
        Check.same("no line", x.line(2, 0), "");
        Check.same("line", x.line(0, 1), "CALL C0.a/0");
        Shrinkforge y = Ops.withEntry("NULL; CALL 1 4; RETURN");
        y.cls(-1, true);
        y.method(1, 1, 0, false, 0);
        Check.same("nobody is a C1", y.shrink(), 1);
        Check.same("no family", y.line(0, 1), "CALL a.-/0");
    }

    private static void fieldsKept() {
        Shrinkforge x = Ops.withEntry("NEW 1; DUP; PUSH 1; PUT 0 0; GET 1 1; SPUT 0 2; NEW 0; PUSH 1; PUT 0 3;"
                + " PUSH 1; SPUT 0 4; SGET 0 0; SGET 0 5; RETURN");
        x.cls(0, false);
        x.field(0, 0, false);
        x.field(0, 1, false);
        x.field(0, 2, true);
        x.field(0, 3, true);
        x.field(0, 4, false);
        x.field(1, 0, false);
        x.field(0, 6, false);
        x.shrink();
        // f0 by the SGET that it is not fit for, f1 by GET, f3 and f4 by a PUT and an SPUT that they are not fit for
        boolean[] due = {true, true, false, true, true, false, false};
        for (int f = 0; f < due.length; f++) {
            Check.same("field " + f, x.isKept(2, f), due[f]);
        }
        Check.same("put", x.line(0, 3), "PUT C0.a");
        Check.same("get", x.line(0, 4), "GET a.b");
        Check.same("sdrop", x.line(0, 5), "SDROP C0");
        Check.same("put of a static", x.line(0, 8), "PUT C0.-");
        Check.same("sput of one that is not", x.line(0, 10), "SPUT C0.-");
        Check.same("sget of one that is not", x.line(0, 11), "SGET C0.-");
        Check.same("sget of none", x.line(0, 12), "SGET C0.-");
        Check.same("fields", x.ofShrunk(2), 4);
        Shrinkforge y = Ops.withEntry("NEW 0; PUSH 1; PUT 0 0; PUSH 1; RETURN; NEW 0; GET 0 0; RETURN");
        y.field(0, 0, false);
        y.shrink();
        Check.same("nobody reads it", Ops.lines(y, 0), "NEW C0; PUSH 1; DROP C0; PUSH 1; RETURN");
    }

    private static void classesKept() {
        // C0 entry; C1 super of C2; C3 interface of C1; C4 of a field; C5 named interface; C6 told by ISA; C7 not
        Shrinkforge x = Ops.withEntry("NEW 2; ISA 6; SGET 4 0; ADD; RETURN");
        x.cls(-1, false);
        x.cls(1, false);
        x.cls(-1, true);
        x.cls(-1, false);
        x.cls(-1, true);
        x.cls(-1, false);
        x.cls(6, false);
        x.implement(1, 3);
        x.implement(7, 3);
        x.field(4, 0, true);
        x.named(5, true);
        x.shrink();
        for (int c = 0; c < 8; c++) {
            Check.same("class " + c, x.isKept(0, c), c < 7);
        }
        Check.same("map", x.map(), "C0>C0: m0/1>m0;C1>a:;C2>b:;C3>c:;C4>d: f0>a;C5>C5:;C6>e:;");
        Check.same("made", x.ofShrunk(4), 1);
        String[] ops = {"CAST 1", "ISA 1", "GET 1 0", "SGET 1 0; ADD", "SCALL 1 0; ADD", "NEW 1; ADD"};
        for (String op : ops) {
            Shrinkforge y = Ops.withEntry("NULL; " + op + "; RETURN");
            y.cls(-1, false);
            y.shrink();
            Check.same("told by " + op, y.isKept(0, 1), true);
        }
        Shrinkforge z = Ops.withEntry("PUSH 1; SPUT 1 0; PUSH 1; RETURN");
        z.cls(-1, false);
        z.cls(1, false);
        z.field(1, 0, true);
        z.shrink();
        Check.same("told by SDROP", z.map(), "C0>C0: m0/1>m0;C1>a:;");
    }

    private static void classNames() {
        Shrinkforge x = new Shrinkforge();
        for (int c = 0; c < 5; c++) {
            x.cls(-1, false);
        }
        x.method(3, 0, 0, true, 0);
        x.entry(0, true);
        Ops.type(x, 0, "NEW 4; POP; NEW 1; POP; NEW 0; RETURN");
        x.named(1, true);
        x.shrink();
        String[] due = {"a", "C1", "", "C3", "b"};
        for (int c = 0; c < 5; c++) {
            Check.same("class " + c, x.newName(0, c), due[c]);
        }
    }

    private static void familyNames() {
        Shrinkforge x = new Shrinkforge();
        x.cls(-1, false);
        x.cls(0, false);
        x.method(0, 5, 0, false, 0);
        x.method(0, 4, 1, true, 0);
        x.method(0, 3, 1, false, 0);
        x.method(0, 2, 0, false, 0);
        x.method(1, 5, 0, false, 0);
        x.method(1, 4, 1, false, 0);
        x.method(0, 1, 1, false, 0);
        x.entry(1, true);
        for (int m = 0; m < 7; m++) {
            Ops.type(x, m, "PUSH 1; RETURN");
        }
        x.cut(1, 2);
        Ops.type(x, 1, "NEW 1; CALL 0 20; NEW 1; PUSH 1; CALL 0 13; NEW 1; CALL 0 8; NEW 1; PUSH 1; CALL 0 17; "
                + "NEW 1; DCALL 0 20; NEW 1; PUSH 1; CALL 0 5; RETURN");
        Check.same("all", x.shrink(), 7);
        String[] due = {"a", "m4", "a", "b", "a", "m4", "b"};
        for (int m = 0; m < 7; m++) {
            Check.same("method " + m, x.newName(1, m), due[m]);
        }
        Check.same("families", x.ofShrunk(5), 5);
        Check.same("map", x.map(), "C0>C0: m5/0>a m4/1>m4 m3/1>a m2/0>b m1/1>b;C1>a: m5/0>a m4/1>m4;");
    }

    private static void fieldNames() {
        Shrinkforge x = new Shrinkforge();
        x.cls(-1, false);
        x.cls(0, false);
        x.cls(1, false);
        x.cls(2, false);
        x.cls(1, false);
        x.method(0, 0, 0, true, 0);
        x.entry(0, true);
        x.field(2, 0, true);
        x.field(0, 1, true);
        x.field(0, 2, true);
        x.field(1, 3, true);
        x.field(3, 4, true);
        x.field(2, 5, true);
        x.field(4, 6, true);
        x.field(0, 7, true);
        Ops.type(x, 0, "SGET 2 0; SGET 0 1; SGET 0 7; SGET 3 4; SGET 2 5; SGET 4 6; RETURN");
        x.shrink();
        String[] due = {"c", "a", "", "", "e", "d", "c", "b"};
        for (int f = 0; f < due.length; f++) {
            Check.same("field " + f, x.newName(2, f), due[f]);
        }
        Check.same("line", x.line(0, 3), "SGET c.e");
    }

    private static void lines() {
        Shrinkforge x = Ops.withEntry("");
        Ops.type(x, 0, "LOAD 0; STORE 1; LOAD 1; DUP; SWAP; SUB; LOAD 0; MUL; LOAD 0; DIV; LOAD 0; REM; LOAD 0; LESS;"
                + " LOAD 0; SAME; NEG; IF0 0; NULL; CAST 0; ISA 0; NEWBY; RETURN; THROW");
        Check.same("right", x.areRight(), true);
        x.shrink();
        Check.same("lines", Ops.lines(x, 0), "LOAD 0; STORE 1; LOAD 1; DUP; SWAP; SUB; LOAD 0; MUL; LOAD 0; DIV; LOAD 0;"
                + " REM; LOAD 0; LESS; LOAD 0; SAME; NEG; IF0 0; NULL; CAST C0; ISA C0; NEWBY; RETURN");
        Shrinkforge y = Ops.withEntry("LOAD 0; PRINT; NEW 1; POP; LOAD 0; LOAD 0; ADD; SPUT 0 0; LOAD 0; IF0 12; PUSH 2;"
                + " THROW; JUMP 12");
        y.cls(-1, false);
        y.shrink();
        Check.same("more lines", Ops.lines(y, 0), "LOAD 0; PRINT; NEW a; POP; LOAD 0; LOAD 0; ADD; SPUT C0.-; LOAD 0;"
                + " IF0 12; PUSH 2; THROW; JUMP 12");
        Shrinkforge z = Ops.withEntry("NEW 1; PUSH 1; PUSH 2; PUSH 3; DCALL 1 7; NEW 1; PUSH 1; CALL 1 9; SCALL 0 1; RETURN");
        z.cls(-1, false);
        z.method(1, 1, 3, false, 0);
        z.method(0, 2, 1, false, 0);
        z.shrink();
        Check.same("calls", Ops.lines(z, 0), "NEW a; PUSH 1; PUSH 2; PUSH 3; DCALL a.a/3; NEW a; PUSH 1; CALL a.-/1;"
                + " SCALL C0.m0/1; RETURN");
    }

    private static void called() {
        Shrinkforge x = new Shrinkforge();
        x.sample(0);
        x.shrink();
        Check.same("in itself", x.called(1, 0, 0), 2);
        Check.same("in the one above", x.called(0, 0, 0), 1);
        Check.same("other letter", x.called(0, 1, 0), -1);
        Check.same("other arity", x.called(0, 0, 1), -1);
        Check.same("a class that is not kept", x.called(2, 0, 0), -1);
        x.sample(3);
        x.shrink();
        Check.same("upward", x.called(1, 0, 2), -1);
        Check.same("of C3", x.called(3, 0, 2), 2);
        Shrinkforge y = Ops.withEntry("NEW 1; CALL 0 4; RETURN");
        y.cls(0, false);
        y.method(0, 1, 0, false, 0);
        Ops.type(y, 1, "PUSH 1; RETURN");
        y.shrink();
        Check.same("from below", y.called(1, 0, 0), 1);
    }

    private static void origins() {
        Shrinkforge x = Ops.withEntry("NOP; PUSH 1; PUSH 2; ADD; PRINT; LOAD 0; RETURN");
        x.shrink();
        int[] due = {1, 4, 5, 6};
        for (int place = 0; place < 4; place++) {
            Check.same("origin " + place, x.origin(0, place), due[place]);
        }
        Check.same("none", x.origin(0, 4), -1);
    }

    private static void stays() {
        Shrinkforge x = Ops.withEntry("PUSH 1; RETURN");
        Check.same("shrink", x.shrink(), 1);
        x.change(0, 0, Ops.PUSH, 2, 0);
        x.cls(-1, false);
        x.named(1, true);
        Check.same("as it was shrunk", x.line(0, 0) + x.map(), "PUSH 1C0>C0: m0/1>m0;");
        x.cut(0, 1);
        Check.same("refused", x.shrink(), -9);
        Check.same("still", x.line(0, 0) + x.map(), "PUSH 1C0>C0: m0/1>m0;");
        Check.same("once", x.house(6), 1);
        x.code(0, Ops.RETURN, 0, 0);
        Check.same("shrink again", x.shrink(), 1);
        Check.same("as it is now", x.line(0, 0) + x.map(), "PUSH 2C0>C0: m0/1>m0;C1>C1:;");
        Check.same("twice", x.house(6), 2);
    }

    private static void samples() {
        Shrinkforge x = new Shrinkforge();
        String[] maps = {"C0>C0: m0/1>m0 m1/0>a;C1>a: m1/0>a;", "C0>C0: m0/1>m0;",
            "C0>C0: m0/1>m0 m1/1>a m2/1>m2;", "C0>C0: f0>a m0/1>m0;C1>C1:;C2>a:;C3>C3: m1/2>a;"};
        int[] kept = {3, 1, 3, 2};
        for (int k = 0; k < 4; k++) {
            x.sample(k);
            Check.same("shrink " + k, x.shrink(), kept[k]);
            Check.same("map " + k, x.map(), maps[k]);
        }
        Check.same("making", Ops.lines(x, 0), "LOAD 0; NEWBY; STORE 1; LOAD 1; PUSH 7; PUT C0.a; LOAD 1; PUSH 4; DROP C0;"
                + " PUSH 2; SDROP C0; LOAD 1; GET C0.a; LOAD 1; PUSH 5; PUSH 6; CALL a.a/2; SUB; RETURN");
        x.sample(1);
        x.shrink();
        Check.same("counting", Ops.lines(x, 0), "PUSH 5; STORE 1; LOAD 1; IF0 11; LOAD 1; PRINT; LOAD 1; PUSH -1; ADD;"
                + " STORE 1; JUMP 2; LOAD 0; RETURN");
    }
}
