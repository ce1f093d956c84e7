/** Promises 27, 37 and 38: runs of the SHRUNK program, whether both are alike, and shrinking it again. */
final class ShrunkRunTest {
    public static void main(String[] args) {
        exceptions();
        runs();
        traces();
        drops();
        asItWasShrunk();
        alike();
        again();
        Check.finish("ShrunkRunTest");
    }

    private static void exceptions() {
        Shrinkforge x = Ops.withEntry("PUSH 1; RETURN");
        x.method(0, 1, 0, true, 0);
        Check.state("runShrunk", () -> x.runShrunk(9, 0));
        Check.state("areAlike", () -> x.areAlike(9, 0));
        Check.state("again", x::again);
        x.shrink();
        for (int m : new int[] {-1, 1, 2, 31, 32, Integer.MAX_VALUE}) {
            Check.argument("runShrunk " + m, () -> x.runShrunk(m, 0));
            Check.argument("areAlike " + m, () -> x.areAlike(m, 0));
        }
        Check.same("no run", x.house(5), 0);
        Check.same("a run", x.runShrunk(0, 0), "=1");
        x.wipe();
        Check.state("wiped", () -> x.runShrunk(0, 0));
        Check.state("wiped", () -> x.areAlike(0, 0));
    }

    private static void runs() {
        Shrinkforge x = new Shrinkforge();
        for (int k = 0; k < 4; k++) {
            x.sample(k);
            x.shrink();
            for (int told : new int[] {-1, 0, 1, 3, 7}) {
                String result = x.run(0, told);
                String all = result + x.out() + "|" + x.trace() + "|" + x.ofRun(0) + " " + x.ofRun(1) + " " + x.ofRun(2);
                Check.same("of the typed one", x.ofRun(3), 0);
                Check.same("result", x.runShrunk(0, told), result);
                Check.same("all", x.result() + x.out() + "|" + x.trace() + "|" + x.ofRun(0) + " " + x.ofRun(1) + " "
                        + x.ofRun(2), all);
                Check.same("of the shrunk one", x.ofRun(3), 1);
            }
        }
        Check.same("both count", x.house(5), 40);
        Shrinkforge y = Ops.withEntry("NEW 1; RETURN");
        y.cls(-1, false);
        y.shrink();
        Check.same("class as it was typed", y.runShrunk(0, 0), "=C1");
    }

    private static void traces() {
        Shrinkforge x = new Shrinkforge();
        x.sample(2);
        x.shrink();
        Check.same("result", x.runShrunk(2, 0), "!2");
        Check.same("trace", x.trace(), "C0.m1/1:2 C0.m2/1:2");
        Check.same("raw", x.raw(), "C0.a/1:2 C0.m2/1:1");
        Check.same("begun", x.begun(0) * 100 + x.begun(1) * 10 + x.begun(2), 11);
        Check.same("guarded", x.runShrunk(0, 0), "=-1");
        Check.same("no trace", x.trace() + x.raw(), "");
        Shrinkforge y = Ops.withEntry("NOP; NEW 1; NOP; CALL 0 20; RETURN");
        y.cls(0, false);
        y.method(1, 5, 0, false, 0);
        Ops.type(y, 1, "PUSH 1; PUSH 2; ADD; PUSH 0; REM; RETURN");
        y.shrink();
        Check.same("thrown in a class with a letter", y.runShrunk(0, 0), "!2");
        Check.same("trace", y.trace(), "C1.m5/0:4 C0.m0/1:3");
        Check.same("raw", y.raw(), "a.a/0:2 C0.m0/1:1");
    }

    private static void drops() {
        Shrinkforge x = Ops.withEntry("LOAD 0; IF0 6; NULL; STORE 1; JUMP 8; NOP; NEW 1; STORE 1; LOAD 1; PUSH 4; PUT 0 0;"
                + " PUSH 6; SPUT 0 1; PUSH 5; RETURN");
        x.cls(-1, false);
        x.field(0, 0, false);
        x.field(0, 1, true);
        x.shrink();
        Check.same("a DROP", x.line(0, 9), "DROP C0");
        Check.same("an SDROP", x.line(0, 11), "SDROP C0");
        Check.same("4", x.runShrunk(0, 0), "!4");
        Check.same("1", x.runShrunk(0, 1), "!1");
        Check.same("trace", x.trace(), "C0.m0/1:10");
        x.change(0, 6, Ops.NEW, 0, 0);
        x.shrink();
        Check.same("fine", x.runShrunk(0, 0), "=5");
        x.change(0, 6, Ops.PUSH, 0, 0);
        x.shrink();
        Check.same("3", x.runShrunk(0, 0), "!3");
        for (int told = 0; told < 2; told++) {
            Check.isTrue("alike " + told, x.areAlike(0, told));
        }
    }

    private static void asItWasShrunk() {
        Shrinkforge x = Ops.withEntry("LOAD 0; NEWBY; ISA 1; RETURN");
        x.cls(-1, false);
        x.cls(-1, false);
        x.named(1, true);
        x.shrink();
        Check.same("numbers as they were typed", x.runShrunk(0, 1), "=1");
        Check.same("not named then", x.runShrunk(0, 2), "!5");
        x.named(1, false);
        x.named(2, true);
        x.change(0, 3, Ops.POP, 0, 0);
        Check.same("whatever was typed since", x.runShrunk(0, 1), "=1");
        Check.isTrue("alike since", x.areAlike(0, 1));
        Check.state("the typed one is not right", () -> x.run(0, 1));
        x.entry(0, false);
        Check.same("an entry then", x.runShrunk(0, 1), "=1");
        x.sample(2);
        Check.same("a sample since", x.runShrunk(0, 1), "=1");
        Check.isTrue("alike still", x.areAlike(0, 1));
        Check.isTrue("sound still", x.isSound());
        Check.argument("no entry there", () -> x.runShrunk(2, 1));
    }

    private static void alike() {
        Shrinkforge x = new Shrinkforge();
        x.sample(2);
        x.shrink();
        x.run(2, 0);
        x.knock();
        for (int told = -3; told < 4; told++) {
            Check.isTrue("alike 0 " + told, x.areAlike(0, told));
            Check.isTrue("alike 2 " + told, x.areAlike(2, told));
        }
        Check.same("it counts as no run", x.house(5), 1);
        Check.same("the last run stays", x.result() + x.trace() + x.ofRun(3), "!2C0.m1/1:2 C0.m2/1:20");
        Check.same("begun stays", x.begun(1), 1);
        Shrinkforge y = Ops.withEntry("JUMP 0");
        y.shrink();
        Check.isTrue("open ones", y.areAlike(0, 0));
    }

    private static void again() {
        Shrinkforge x = new Shrinkforge();
        for (int k = 0; k < 4; k++) {
            x.sample(k);
            x.shrink();
            Check.isTrue("again " + k, x.again());
        }
        Check.same("not by shrink()", x.house(6), 4);
        String map = x.map();
        x.again();
        Check.same("nothing is other", x.map(), map);
        x.sample(0);
        x.change(0, 0, Ops.STORE, 0, 0);
        Check.isTrue("of what was shrunk", x.again());
    }
}
