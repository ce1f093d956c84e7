/** Promises 45 to 48: the house. */
final class HouseTest {
    public static void main(String[] args) {
        house();
        knocks();
        sound();
        digests();
        Check.finish("HouseTest");
    }

    private static void house() {
        Shrinkforge x = new Shrinkforge();
        Check.argument("house 8", () -> x.house(8));
        Check.argument("house -1", () -> x.house(-1));
        x.sample(3);
        int[] due = {4, 4, 5, 25, 0, 0, 0, 0};
        for (int what = 0; what < 8; what++) {
            Check.same("house " + what, x.house(what), due[what]);
        }
        x.shrink();
        x.run(0, 3);
        x.runShrunk(0, 3);
        x.run(0, 0);
        Check.argument("no run", () -> x.run(1, 0));
        x.areAlike(0, 3);
        x.isSound();
        x.digest();
        Check.same("shrunk", x.house(4), 1);
        Check.same("runs", x.house(5), 3);
        Check.same("shrinks", x.house(6), 1);
        x.cut(0, 19);
        Check.same("instructions", x.house(3), 6);
        Check.same("refused", x.shrink(), -9);
        Check.same("shrinks stay", x.house(6), 1);
        Check.same("still shrunk", x.house(4), 1);
    }

    private static void knocks() {
        Shrinkforge x = new Shrinkforge();
        Check.same("first", x.knock(), 1);
        Check.same("second", x.knock(), 2);
        Check.same("house", x.house(7), 2);
    }

    private static void sound() {
        Shrinkforge x = new Shrinkforge();
        Check.isTrue("nothing shrunk", x.isSound());
        for (int k = 0; k < 4; k++) {
            x.sample(k);
            Check.isTrue("sample " + k, x.isSound());
            x.shrink();
            Check.isTrue("shrunk sample " + k, x.isSound());
        }
        x.run(0, 3);
        x.isSound();
        Check.same("it counts as no run", x.house(5), 1);
        Check.same("the last run stays", x.result(), "=-23");
        Shrinkforge y = Ops.withEntry("LOAD 0; IF0 9; NEW 0; LOAD 0; CALL 0 5; PRINT; LOAD 0; SCALL 0 9; RETURN; NULL;"
                + " LOAD 0; CALL 0 5; RETURN");
        y.method(0, 1, 1, false, 2);
        y.method(0, 2, 1, true, 1);
        Ops.type(y, 1, "LOAD 2; LOAD 1; ADD; STORE 2; LOAD 2; PRINT; LOAD 1; PUSH 1; LESS; IF0 11; JUMP 0; LOAD 2; RETURN");
        Ops.type(y, 2, "LOAD 1; IF0 4; PUSH 1; THROW; PUSH 8; STORE 1; LOAD 0; PUSH 7; SUB; IF0 12; PUSH 9; RETURN;"
                + " PUSH 9; LOAD 0; PUSH 7; SUB; DIV; RETURN");
        y.shrink();
        Check.isTrue("calls put in", y.isSound());
        soundWithObjects();
        soundWithWrongs();
    }

    /** What is called reads the object, its arguments and its variables, above VALUES of who calls. */
    private static void soundWithObjects() {
        Shrinkforge x = Ops.withEntry("NEW 1; STORE 1; LOAD 1; LOAD 0; PUT 0 0; PUSH 100; LOAD 1; LOAD 0; PUSH 3; CALL 0 6;"
                + " SUB; PRINT; LOAD 1; PUSH 5; PUSH 6; DCALL 1 6; PRINT; PUSH 50; LOAD 0; SCALL 0 9; ADD; RETURN");
        x.cls(0, false);
        x.field(0, 0, false);
        x.method(0, 1, 2, false, 2);
        x.method(0, 2, 1, true, 1);
        Ops.type(x, 1, "LOAD 3; PRINT; LOAD 0; GET 0 0; LOAD 1; MUL; LOAD 2; ADD; STORE 3; LOAD 3; IF0 13; LOAD 3; RETURN;"
                + " PUSH 77; RETURN");
        Ops.type(x, 2, "LOAD 1; LOAD 0; LESS; IF0 9; LOAD 1; PUSH 1; ADD; STORE 1; JUMP 0; LOAD 1; PUSH 2; MUL; RETURN");
        x.shrink();
        Check.same("run", x.run(0, 7), "=64");
        Check.same("out", x.out(), "0 48 0 41");
        Check.isTrue("with objects", x.isSound());
    }

    /** What goes wrong in what is called is seen by the GUARD of who calls; so is an object that is none. */
    private static void soundWithWrongs() {
        String[] objects = {"NULL", "PUSH 4", "NEW 2", "NEW 1", "NEW 0"};
        for (String object : objects) {
            Shrinkforge x = Ops.withEntry(object + "; LOAD 0; CALL 1 5; RETURN; PRINT; LOAD 0; RETURN");
            x.cls(0, false);
            x.cls(-1, false);
            x.method(1, 1, 1, false, 1);
            Ops.type(x, 1, "LOAD 1; PUSH 1; SUB; STORE 2; PUSH 9; LOAD 1; DIV; LOAD 2; IF0 11; PUSH 1; THROW; RETURN");
            x.shrink();
            Check.isTrue("without a guard " + object, x.isSound());
            x.guard(0, 1, 3, 4);
            x.shrink();
            Check.isTrue("with a guard " + object, x.isSound());
        }
        Shrinkforge y = Ops.withEntry("LOAD 1; SCALL 0 5; STORE 1; JUMP 0");
        y.method(0, 1, 1, true, 0);
        Ops.type(y, 1, "LOAD 0; PRINT; LOAD 0; PUSH 1; ADD; RETURN");
        y.shrink();
        Check.isTrue("open ones", y.isSound());
        Shrinkforge z = Ops.withEntry("PUSH 1; SCALL 0 5; POP; LOAD 0; SCALL 0 1; RETURN; PRINT; LOAD 0; RETURN");
        z.method(0, 1, 1, true, 0);
        Ops.type(z, 1, "LOAD 0; RETURN");
        z.guard(0, 1, 2, 6);
        z.shrink();
        Check.isTrue("too deep for a leaf", z.isSound());
    }

    /** The checksum once more, by the calls of the face. */
    private static long sum;

    private static void add(int value) {
        sum = sum * 31 + value;
    }

    private static void add(String text) {
        for (char sign : text.toCharArray()) {
            add(sign);
        }
    }

    private static long digestByCalls(Shrinkforge x) {
        sum = 7653;
        for (int what = 0; what < 8; what++) {
            add(x.house(what));
        }
        for (int c = 0; c < x.house(0); c++) {
            for (int what = 0; what < 6; what++) {
                add(x.ofClass(c, what));
            }
        }
        for (int f = 0; f < x.house(1); f++) {
            for (int what = 0; what < 3; what++) {
                add(x.ofField(f, what));
            }
        }
        for (int m = 0; m < x.house(2); m++) {
            for (int what = 0; what < 8; what++) {
                add(x.ofMethod(m, what));
            }
            add(x.isRight(m) ? 1 : 0);
            add(x.folded(m));
            for (int place = 0; place < x.ofMethod(m, 5); place++) {
                add(x.isLive(m, place) ? 1 : 0);
            }
        }
        if (x.house(4) == 1) {
            add(x.map());
            for (int what = 0; what < 6; what++) {
                add(x.ofShrunk(what));
            }
            for (int m = 0; m < 24; m++) {
                add(x.lines(m));
                for (int place = 0; place < x.lines(m); place++) {
                    add(x.line(m, place));
                }
            }
        }
        add(x.result());
        add(x.out());
        add(x.trace());
        add(x.raw());
        for (int what = 0; what < 4; what++) {
            add(x.ofRun(what));
        }
        for (int m = 0; m < 24; m++) {
            add(x.begun(m));
        }
        add(x.isSound() ? 1 : 0);
        return sum;
    }

    private static void digests() {
        Shrinkforge x = new Shrinkforge();
        Check.same("empty", x.digest(), digestByCalls(x));
        for (int k = 0; k < 4; k++) {
            x.sample(k);
            Check.same("sample " + k, x.digest(), digestByCalls(x));
            x.shrink();
            Check.same("shrunk " + k, x.digest(), digestByCalls(x));
            x.run(0, k);
            x.knock();
            Check.same("run " + k, x.digest(), digestByCalls(x));
            x.runShrunk(0, 0);
            Check.same("run shrunk " + k, x.digest(), digestByCalls(x));
        }
        x.sample(2);
        x.run(2, 0);
        x.guard(1, 3, 2, 1);
        Check.same("one not right", x.digest(), digestByCalls(x));
        x.wipe();
        Check.same("wiped", x.digest(), digestByCalls(x));
        for (int seed = 1; seed <= 60; seed++) {
            Shrinkforge y = new Shrinkforge();
            Model model = new Model();
            new Maker(seed, y, model, 5).make();
            if (y.shrink() >= 0) {
                y.run(0, 1);
            }
            Check.same("random " + seed, y.digest(), digestByCalls(y));
        }
    }
}
