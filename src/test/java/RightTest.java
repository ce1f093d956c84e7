/** Promises 21 to 23: RIGHT and LIVE. */
final class RightTest {
    public static void main(String[] args) {
        heights();
        places();
        guards();
        abstractOnes();
        programs();
        live();
        Check.finish("RightTest");
    }

    private static void isRight(String text, boolean due) {
        Check.same(text, Ops.withEntry(text).isRight(0), due);
    }

    private static void heights() {
        isRight("PUSH 1; RETURN", true);
        isRight("RETURN", false);
        isRight("PUSH 1", false);
        isRight("PUSH 1; PUSH 2; RETURN", true);
        isRight("POP; PUSH 1; RETURN", false);
        isRight("DUP; RETURN", false);
        isRight("PUSH 1; DUP; ADD; RETURN", true);
        isRight("PUSH 1; SWAP; RETURN", false);
        isRight("PUSH 1; PUSH 2; SWAP; SUB; RETURN", true);
        isRight("PUSH 1; ADD; RETURN", false);
        isRight("PUSH 1; THROW", true);
        isRight("PUSH 1; IF0 0; PUSH 1; RETURN", true);
        isRight("PUSH 1; IF0 0; PUSH 1; IF0 1; PUSH 2; RETURN", false);
        isRight("PUSH 1; DUP; IF0 3; RETURN", true);
        isRight("LOAD 0; IF0 3; PUSH 5; PUSH 6; RETURN", false);
        isRight("PUSH 1; JUMP 0", false);
        isRight("JUMP 0", true);
        isRight("PUSH 1; NEW 0; PUT 0 0; PUSH 1; RETURN", true);
        isRight("NEW 0; PUT 0 0; PUSH 1; RETURN", false);
        isRight("PUSH 1; SCALL 0 5; RETURN", true);
        isRight("SCALL 0 5; RETURN", false);
        isRight("PUSH 1; CALL 0 5; RETURN", false);
        isRight("NEW 0; PUSH 1; CALL 0 5; RETURN", true);
        isRight("NEW 0; PUSH 1; PUSH 2; PUSH 3; DCALL 0 7; RETURN", true);
        isRight("PUSH 1; PUSH 2; PUSH 3; DCALL 0 7; RETURN", false);
        String twelve = "PUSH 1; PUSH 1; PUSH 1; PUSH 1; PUSH 1; PUSH 1; PUSH 1; PUSH 1; PUSH 1; PUSH 1; PUSH 1; PUSH 1; ";
        isRight(twelve + "RETURN", true);
        isRight(twelve + "PUSH 1; RETURN", false);
        isRight(twelve + "DUP; RETURN", false);
        isRight(twelve + "SWAP; ADD; RETURN", true);
        isRight(twelve + "RETURN; PUSH 1; POP; POP", true);
    }

    private static void places() {
        isRight("JUMP 2; NOP; PUSH 1; RETURN", true);
        isRight("JUMP 4; NOP; PUSH 1; RETURN", false);
        isRight("JUMP -1", false);
        isRight("PUSH 1; RETURN; JUMP 3", false);
        isRight("PUSH 1; RETURN; IF0 2", true);
        isRight("PUSH 1; RETURN; IF0 99", false);
        isRight("LOAD 1; RETURN", true);
        isRight("LOAD 2; RETURN", false);
        isRight("LOAD -1; RETURN", false);
        isRight("PUSH 1; RETURN; STORE 2", false);
        isRight("PUSH 1; RETURN; NEW 1", false);
        for (String op : new String[] {"NEW", "GET", "PUT", "SGET", "SPUT", "CALL", "DCALL", "SCALL", "CAST", "ISA"}) {
            isRight("PUSH 1; RETURN; " + op + " 1", false);
            isRight("PUSH 1; RETURN; " + op + " -1", false);
            isRight("PUSH 1; RETURN; " + op + " 0", true);
        }
        isRight("PUSH 1; PUSH 2; SAME; RETURN; PUSH 99", true);
        Shrinkforge x = new Shrinkforge();
        x.cls(-1, false);
        x.method(0, 0, 3, false, 4);
        Ops.type(x, 0, "LOAD 7; RETURN");
        Check.isTrue("eight variables", x.isRight(0));
        x.change(0, 0, Ops.LOAD, 8, 0);
        Check.same("a ninth", x.isRight(0), false);
        Check.index("no method", () -> x.isRight(1));
        Check.index("below", () -> x.isRight(-1));
    }

    private static void guarded(String text, int from, int to, int handler, boolean due) {
        Shrinkforge x = Ops.withEntry(text);
        x.guard(0, from, to, handler);
        Check.same(text + " " + from + " " + to + " " + handler, x.isRight(0), due);
    }

    private static void guards() {
        String code = "PUSH 1; RETURN; RETURN";
        guarded(code, 0, 2, 2, true);
        guarded(code, 0, 3, 2, true);
        guarded(code, 0, 4, 2, false);
        guarded(code, 1, 1, 2, false);
        guarded(code, 2, 1, 2, false);
        guarded(code, 0, 1, 3, false);
        guarded(code, 0, 1, 0, false);
        guarded(code, 0, 1, 1, true);
        guarded("PUSH 1; RETURN; PRINT", 0, 1, 2, false);
        guarded("PUSH 1; RETURN; PRINT; POP", 2, 3, 3, true);
        guarded("PUSH 1; RETURN; ADD; RETURN", 0, 1, 2, false);
        guarded("PUSH 1; RETURN; PUSH 1; ADD; RETURN", 0, 1, 2, true);
    }

    private static void abstractOnes() {
        Shrinkforge x = new Shrinkforge();
        x.cls(-1, false);
        x.cls(-1, true);
        x.method(0, 0, 0, true, 0);
        x.method(1, 0, 0, true, 0);
        Check.isTrue("abstract", x.isRight(0));
        x.entry(0, true);
        Check.same("abstract entry", x.isRight(0), false);
        x.entry(0, false);
        x.guard(0, 0, 0, 0);
        Check.same("abstract with a guard", x.isRight(0), false);
        Check.isTrue("abstract of an interface", x.isRight(1));
        Ops.type(x, 1, "PUSH 1; RETURN");
        Check.same("code of an interface", x.isRight(1), false);
    }

    private static void programs() {
        Shrinkforge x = Ops.withEntry("PUSH 1; RETURN");
        Check.isTrue("right", x.areRight());
        x.entry(0, false);
        Check.same("without an entry", x.areRight(), false);
        x.entry(0, true);
        x.method(0, 1, 0, false, 0);
        Check.isTrue("with an abstract one", x.areRight());
        x.code(1, Ops.POP, 0, 0);
        Check.same("with a wrong one", x.areRight(), false);
        Check.same("refused", x.shrink(), -9);
        x.cut(1, 1);
        Check.isTrue("right again", x.areRight());
    }

    private static void liveIs(String text, String due) {
        Shrinkforge x = Ops.withEntry(text);
        StringBuilder got = new StringBuilder();
        for (int place = 0; place < x.ofMethod(0, 5); place++) {
            got.append(x.isLive(0, place) ? '1' : '0');
        }
        Check.same("live: " + text, got.toString(), due);
    }

    private static void live() {
        liveIs("PUSH 1; RETURN; NOP", "110");
        liveIs("JUMP 2; NOP; PUSH 1; THROW; NOP", "10110");
        liveIs("PUSH 1; IF0 4; PUSH 1; RETURN; NOP; JUMP 5", "111111");
        liveIs("JUMP 5; NOP", "10");
        liveIs("JUMP -1; NOP", "10");
        liveIs("JUMP 3; NOP; RETURN; JUMP 1", "1111");
        liveIs("POP; POP", "11");
        Shrinkforge x = Ops.withEntry("PUSH 1; JUMP 3; NOP; RETURN; RETURN; RETURN; RETURN");
        x.guard(0, 1, 2, 4);
        x.guard(0, 2, 3, 5);
        Check.same("handler of a live place", x.isLive(0, 4), true);
        Check.same("handler of a dead place", x.isLive(0, 5), false);
        Shrinkforge y = Ops.withEntry("PUSH 1; RETURN; PRINT; JUMP 0");
        y.guard(0, 0, 30, 2);
        y.guard(0, 3, 2, 30);
        Check.same("not right", y.isRight(0), false);
        Check.same("but live", y.isLive(0, 3), true);
        Check.index("no method", () -> y.isLive(1, 0));
        Check.index("no place", () -> y.isLive(0, 4));
        Check.index("place -1", () -> y.isLive(0, -1));
    }
}
