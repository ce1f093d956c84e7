/** The boundaries of section 6 and of promises 12, 13 and 45 to 48: SAMPLES, wiping, the house. */
final class HouseBoundaryTest {
    private static final int LEAST = Integer.MIN_VALUE;
    private static final int GREATEST = Integer.MAX_VALUE;

    public static void main(String[] args) {
        whichSamples();
        fourSamples();
        guardOfSample2();
        sampleReplacesAll();
        sampleKeepsWhatWasShrunk();
        wipeTakesAll();
        wipeKeeps();
        nothingOldComesBack();
        houseCounts();
        knocks();
        soundWithoutShrunk();
        soundWithAllVariables();
        digestOfNothing();
        digestSeesEachPart();
        manyCalls();
        Check.finish("HouseBoundaryTest");
    }

    /** sample: "if k is not 0 to 3". */
    private static void whichSamples() {
        Shrinkforge x = Ops.program("class", "method 0 0 0 static entry: NULL; RETURN");
        x.shrink();
        for (int k : new int[] {-1, 4, LEAST, GREATEST}) {
            Check.refuses(x, "sample " + k, Check.ARGUMENT, () -> x.sample(k));
        }
        int[] methods = {4, 1, 3, 5};
        int[] classes = {3, 1, 1, 4};
        int[] fields = {0, 0, 0, 4};
        int[] instructions = {13, 19, 14, 25};
        for (int k = 0; k < 4; k++) {
            Check.same("sample " + k, x.sample(k), methods[k]);
            Check.same("classes " + k, x.house(0), classes[k]);
            Check.same("fields " + k, x.house(1), fields[k]);
            Check.same("methods " + k, x.house(2), methods[k]);
            Check.same("instructions " + k, x.house(3), instructions[k]);
            Check.same("RIGHT " + k, x.areRight(), true);
        }
    }

    /** Each SAMPLE is like the same program typed by hand: its checksum, its code, its runs. */
    private static void fourSamples() {
        like(0, Ops.program("class", "class 0", "class 0",
                "method 0 0 1 static entry: LOAD 0; IF0 4; NEW 0; JUMP 5; NEW 1; CALL 0 4; RETURN", "method 0 1 0: PUSH 1; RETURN",
                "method 1 1 0: PUSH 2; RETURN", "method 2 1 0: PUSH 3; RETURN"));
        like(1, Ops.program("class", "method 0 0 1 static entry locals 1: PUSH 2; PUSH 3; ADD; STORE 1; LOAD 1; IF0 13; LOAD 1; PRINT;"
                + " LOAD 1; PUSH -1; ADD; STORE 1; JUMP 4; PUSH 0; IF0 17; PUSH 9; PRINT; LOAD 0; RETURN"));
        like(2, Ops.program("class", "method 0 0 1 static entry: LOAD 0; SCALL 0 5; RETURN; PRINT; PUSH -1; RETURN",
                "method 0 1 1 static: PUSH 10; LOAD 0; DIV; RETURN", "method 0 2 1 static entry: NOP; LOAD 0; SCALL 0 5; RETURN",
                "guard 0 1 2 3"));
        like(3, Ops.program("class", "class 0 named", "interface", "class 0 has 2 named", "field 0 0", "field 0 1", "field 1 0",
                "field 0 2 static", "method 0 0 1 static entry locals 1: LOAD 0; NEWBY; STORE 1; LOAD 1; PUSH 7; PUT 0 0; LOAD 1; PUSH 4;"
                        + " PUT 0 1; PUSH 2; SPUT 0 2; LOAD 1; GET 0 0; LOAD 1; PUSH 5; PUSH 6; CALL 2 6; SUB; RETURN", "method 2 1 2",
                "method 3 1 2: LOAD 1; LOAD 2; MUL; RETURN", "method 2 3 1", "method 3 1 1: PUSH 1; RETURN"));
    }

    private static void like(int k, Shrinkforge typed) {
        Shrinkforge x = new Shrinkforge();
        x.sample(k);
        Check.same("digest of SAMPLE " + k, x.digest(), typed.digest());
        for (int m = 0; m < x.house(2); m++) {
            for (int place = 0; place < x.ofMethod(m, 5); place++) {
                for (int what = 0; what < 3; what++) {
                    Check.same("SAMPLE " + k + " " + m + " " + place + " " + what, x.instruction(m, place, what),
                            typed.instruction(m, place, what));
                }
            }
        }
        Check.same("SHRUNK SAMPLE " + k, x.shrink(), typed.shrink());
        for (int told = -1; told <= 3; told++) {
            Check.same("run of SAMPLE " + k + " told " + told, x.run(0, told), typed.run(0, told));
            Check.same("digest of SAMPLE " + k + " told " + told, x.digest(), typed.digest());
            Check.same("SHRUNK run of SAMPLE " + k + " told " + told, x.runShrunk(0, told), typed.runShrunk(0, told));
            Check.same("digest of SHRUNK SAMPLE " + k + " told " + told, x.digest(), typed.digest());
        }
    }

    /** "GUARD from 1 to 2, HANDLER 3": it has the place 1 alone. */
    private static void guardOfSample2() {
        Shrinkforge first = new Shrinkforge();
        first.sample(2);
        first.change(0, 0, Ops.SGET, 0, 0);
        Check.same("not ahead of it", first.run(0, 2), "!5");
        Shrinkforge second = new Shrinkforge();
        second.sample(2);
        second.change(0, 0, Ops.NOP, 0, 0);
        second.change(0, 1, Ops.SGET, 0, 0);
        Check.same("in it", second.run(0, 2), "=-1");
        Shrinkforge third = new Shrinkforge();
        third.sample(2);
        third.change(0, 2, Ops.THROW, 0, 0);
        Check.same("not behind it", third.run(0, 2), "!6:5");
        Shrinkforge y = new Shrinkforge();
        y.sample(2);
        Check.same("caught", y.run(0, 0) + y.out() + y.ofRun(0), "=-1-22");
        Check.same("one more fits", y.guard(0, 0, 1, 3), 2);
    }

    /** "The program becomes a SAMPLE": nothing of the one before is left. */
    private static void sampleReplacesAll() {
        for (int k = 0; k < 4; k++) {
            Shrinkforge x = new Shrinkforge();
            full(x);
            x.sample(k);
            Shrinkforge y = new Shrinkforge();
            y.sample(k);
            Check.same("on a full one " + k, x.digest(), y.digest());
            Check.same("a class more", x.cls(-1, false), y.cls(-1, false));
            Check.same("a field more", x.field(0, 7, false), y.field(0, 7, false));
            Check.same("a method more", x.method(0, 7, 1, true, 0), y.method(0, 7, 1, true, 0));
            Check.same("with them " + k, x.digest(), y.digest());
            for (int other = 0; other < 4; other++) {
                x.sample(other);
                y.sample(other);
                Check.same("another one " + k + " " + other, x.digest(), y.digest());
            }
        }
    }

    /** 8 classes, 16 fields, 24 methods with 30 INSTRUCTIONS and 2 GUARDS, all NAMED, STATIC, ENTRIES. */
    private static void full(Shrinkforge x) {
        x.cls(-1, true);
        x.cls(-1, true);
        for (int c = 2; c < 8; c++) {
            x.cls(c == 2 ? -1 : c - 1, false);
            x.implement(c, 0);
            x.implement(c, 1);
        }
        for (int c = 0; c < 8; c++) {
            x.named(c, true);
        }
        for (int f = 0; f < 16; f++) {
            x.field(2 + f / 10, f % 10, true);
        }
        for (int m = 0; m < 24; m++) {
            x.method(2 + m / 16, m % 16, 1, true, 4);
            Ops.type(x, m, "NOP; ".repeat(28) + "NULL; RETURN");
            x.guard(m, 0, 30, 29);
            x.guard(m, 0, 30, 29);
            x.entry(m, true);
        }
    }

    /** "what was SHRUNK stays". */
    private static void sampleKeepsWhatWasShrunk() {
        Shrinkforge x = Ops.program("class", "method 0 0 0 static entry: PUSH 3; RETURN");
        x.shrink();
        for (int k = 0; k < 4; k++) {
            x.sample(k);
            Check.same("SHRUNK stays " + k, x.house(4) + x.map() + x.line(0, 0) + x.runShrunk(0, 0), "1C0>C0: m0/0>m0;PUSH 3=3");
            Check.same("sound " + k, x.isSound() && x.again() && x.areAlike(0, 0), true);
        }
        x.run(0, 3);
        Check.same("the typed one is another", x.result(), "=-23");
        Check.same("house stays", x.house(5) * 10 + x.house(6), 51);
    }

    /** wipe: "The program is gone, and what was SHRUNK, too"; "how many METHODS there were". */
    private static void wipeTakesAll() {
        Shrinkforge x = new Shrinkforge();
        Check.same("nothing", x.wipe(), 0);
        full(x);
        x.shrink();
        Check.same("24", x.wipe(), 24);
        for (int what = 0; what <= 4; what++) {
            Check.same("house " + what, x.house(what), 0);
        }
        Check.refuses(x, "no class", Check.INDEX, () -> x.ofClass(0, 0));
        Check.refuses(x, "no field", Check.INDEX, () -> x.ofField(0, 0));
        Check.refuses(x, "no method", Check.INDEX, () -> x.ofMethod(0, 0));
        Check.refuses(x, "no code", Check.INDEX, () -> x.instruction(0, 0, 0));
        Check.refuses(x, "no ENTRY", Check.INDEX, () -> x.run(0, 0));
        Check.refuses(x, "nothing SHRUNK", Check.STATE, () -> x.runShrunk(0, 0));
        Check.same("not RIGHT", x.areRight(), false);
        Check.same("refused", x.shrink(), -9);
        Check.same("sound", x.isSound(), true);
        Check.same("wiped twice", x.wipe(), 0);
    }

    /** "the last run, and house() of 5 to 7, stay". */
    private static void wipeKeeps() {
        Shrinkforge x = new Shrinkforge();
        x.sample(1);
        x.shrink();
        x.shrink();
        x.run(0, 1);
        x.knock();
        x.knock();
        x.knock();
        x.runShrunk(0, 8);
        x.wipe();
        Check.same("house 5", x.house(5), 2);
        Check.same("house 6", x.house(6), 2);
        Check.same("house 7", x.house(7), 3);
        Check.same("result", x.result(), "=8");
        Check.same("out", x.out(), "5 4 3 2 1");
        Check.same("trace and raw", x.trace() + x.raw(), "");
        Check.same("ofRun", x.ofRun(0) * 1000 + x.ofRun(1) * 100 + x.ofRun(2) * 10 + x.ofRun(3), 5511);
        Check.same("begun", x.begun(0), 1);
    }

    /** Behind wipe() numbers start with 0 again, and what comes has nothing of what was there. */
    private static void nothingOldComesBack() {
        Shrinkforge x = new Shrinkforge();
        full(x);
        x.wipe();
        Shrinkforge y = new Shrinkforge();
        Check.same("digest of an empty one", x.digest(), y.digest());
        for (Shrinkforge one : new Shrinkforge[] {x, y}) {
            one.cls(-1, false);
            one.cls(-1, true);
            one.field(0, 0, false);
            one.method(0, 0, 0, false, 0);
            one.method(0, 1, 0, true, 1);
        }
        Check.same("digest of what was typed", x.digest(), y.digest());
        for (int what = 1; what <= 5; what++) {
            Check.same("class 0 " + what, x.ofClass(0, what), what == 4 ? 2 : what == 5 ? 1 : 0);
        }
        for (int what = 3; what <= 7; what++) {
            Check.same("method 0 " + what, x.ofMethod(0, what), 0);
        }
        Check.same("no SUPER", x.ofClass(0, 0), -1);
        Check.same("the field is not STATIC", x.ofField(0, 2), 0);
        Check.same("one is STATIC, with a local", x.ofMethod(1, 3) * 10 + x.ofMethod(1, 4), 11);
    }

    /** house: "5 how many runs there were, 6 how often it was shrunk by shrink(), 7 how often one knocked". */
    private static void houseCounts() {
        Shrinkforge x = Ops.program("class", "method 0 0 0 static entry: NULL; RETURN");
        Check.same("nothing SHRUNK", x.house(4), 0);
        x.shrink();
        Check.same("SHRUNK", x.house(4), 1);
        Check.same("once", x.house(6), 1);
        x.again();
        x.isSound();
        x.digest();
        x.areAlike(0, 0);
        Check.same("not by again(), isSound() and digest()", x.house(6), 1);
        Check.same("no run", x.house(5), 0);
        x.run(0, 0);
        x.runShrunk(0, 0);
        Check.same("two runs", x.house(5), 2);
        x.cut(0, 1);
        x.shrink();
        Check.same("refused does not count", x.house(6), 1);
        Check.same("SHRUNK still", x.house(4), 1);
        Check.same("INSTRUCTIONS", x.house(3), 1);
        x.cut(0, 1);
        Check.same("none", x.house(3), 0);
        Check.same("methods", x.house(2), 1);
    }

    /** knock: "how often one knocked, with this". */
    private static void knocks() {
        Shrinkforge x = new Shrinkforge();
        for (int time = 1; time <= 5; time++) {
            Check.same("house before", x.house(7), time - 1);
            Check.same("knock", x.knock(), time);
            Check.same("house behind", x.house(7), time);
        }
        Check.same("another house", new Shrinkforge().knock(), 1);
    }

    /** isSound: without something SHRUNK all is so. */
    private static void soundWithoutShrunk() {
        Shrinkforge x = new Shrinkforge();
        Check.same("empty", x.isSound(), true);
        x.sample(2);
        x.change(0, 0, Ops.POP, 0, 0);
        Check.same("not RIGHT", x.isSound(), true);
        x.sample(2);
        x.shrink();
        x.change(0, 0, Ops.POP, 0, 0);
        Check.same("SHRUNK, and not RIGHT since", x.isSound(), true);
        x.wipe();
        Check.same("wiped", x.isSound(), true);
    }

    /** isSound: who calls has 8 variables, and what is called has 8. */
    private static void soundWithAllVariables() {
        Shrinkforge x = Ops.program("class", "method 0 0 1 static entry: NEW 0; LOAD 0; PUSH 20; PUSH 30; CALL 0 7; RETURN",
                "method 0 1 3 locals 4: PUSH 5; STORE 7; NEW 0; LOAD 1; LOAD 2; LOAD 3; CALL 0 11; LOAD 7; ADD; LOAD 1; ADD; LOAD 0; ISA 0; ADD;"
                        + " RETURN",
                "method 0 2 3 locals 4: LOAD 3; STORE 7; LOAD 1; STORE 4; LOAD 7; LOAD 4; SUB; LOAD 2; MUL; LOAD 5; ADD; LOAD 6; ADD;"
                        + " RETURN");
        x.shrink();
        Check.same("run", x.run(0, 7), "=" + (23 * 20 + 5 + 7 + 1));
        Check.same("sound", x.isSound(), true);
    }

    /** digest: "d starts with 7653; then d becomes d * 31 + v, which wraps around as a 64-bit integer". */
    private static void digestOfNothing() {
        long due = 7653;
        for (int v = 0; v < 8 + 4 + 24; v++) {
            due = due * 31;
        }
        Check.same("empty", new Shrinkforge().digest(), due * 31 + 1);
        Shrinkforge x = new Shrinkforge();
        x.knock();
        long one = 7653;
        for (int v = 0; v < 7; v++) {
            one = one * 31;
        }
        one = one * 31 + 1;
        for (int v = 0; v < 4 + 24; v++) {
            one = one * 31;
        }
        Check.same("one knock", x.digest(), one * 31 + 1);
    }

    /** Each part that digest() tells makes another checksum. */
    private static void digestSeesEachPart() {
        Shrinkforge x = new Shrinkforge();
        java.util.Set<Long> seen = new java.util.TreeSet<>();
        seen.add(x.digest());
        Runnable[] steps = {() -> x.cls(-1, false), () -> x.cls(-1, true), () -> x.implement(0, 1), () -> x.named(0, true),
            () -> x.field(0, 3, true), () -> x.method(0, 2, 0, true, 1), () -> x.code(0, Ops.POP, 0, 0),
            () -> x.change(0, 0, Ops.JUMP, 0, 0), () -> x.code(0, Ops.RETURN, 0, 0), () -> x.change(0, 0, Ops.NULL, 0, 0), () -> x.guard(0, 0, 1, 1), () -> x.entry(0, true),
            () -> x.shrink(), () -> x.run(0, 0), () -> x.runShrunk(0, 0), () -> x.knock(), () -> x.shrink(), () -> x.cut(0, 0),
            () -> x.shrink(), () -> x.sample(2), () -> x.run(2, 0), () -> x.run(2, 1), () -> x.shrink(), () -> x.runShrunk(0, 0),
            () -> x.wipe()};
        for (int step = 0; step < steps.length; step++) {
            steps[step].run();
            Check.same("step " + step, seen.add(x.digest()), true);
        }
    }

    /** "An object is used for at most 512 calls": the 512th answers as the first would. */
    private static void manyCalls() {
        Shrinkforge x = new Shrinkforge();
        x.sample(1);
        x.shrink();
        for (int call = 3; call <= 511; call++) {
            Check.same("call " + call, call % 2 == 0 ? x.run(0, call) : x.runShrunk(0, call), "=" + call);
        }
        Check.same("the 512th", x.house(5), 509);
    }
}
