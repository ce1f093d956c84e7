/** The boundaries of section 5 and of promises 36 to 44: RESULT, OUT, TRACE, RAW, and runs of the SHRUNK program. */
final class RunBoundaryTest {
    private static final int LEAST = Integer.MIN_VALUE;
    private static final int GREATEST = Integer.MAX_VALUE;

    public static void main(String[] args) {
        whoMayBeRun();
        whoMayBeRunShrunk();
        formsOfResult();
        kindsOfWrong();
        outOf60();
        outIsEmptyAtFirst();
        staticsAreZeroAtFirst();
        objectsBeginAnew();
        traces();
        traceIsEmptyOtherwise();
        rawOfTheTyped();
        rawOfTheShrunk();
        asItWasShrunkLast();
        alike();
        unlikeInNothing();
        aRefusedRunChangesNothing();
        begunAndMost();
        theLastRunStays();
        Check.finish("RunBoundaryTest");
    }

    /** run: "no such METHOD"; "it is no ENTRY"; "the program is not RIGHT"; the one named first. */
    private static void whoMayBeRun() {
        Shrinkforge x = Ops.program("class", "method 0 0 0 static entry: PUSH 1; RETURN", "method 0 1 0 static: PUSH 2; RETURN");
        for (int none : new int[] {-1, 2, 24, 31, 32, LEAST, GREATEST}) {
            Check.refuses(x, "no method " + none, Check.INDEX, () -> x.run(none, 0));
        }
        Check.refuses(x, "no ENTRY", Check.ARGUMENT, () -> x.run(1, 0));
        Check.same("an ENTRY", x.run(0, 0), "=1");
        x.entry(1, true);
        Check.same("an ENTRY now", x.run(1, 0), "=2");
        x.entry(1, false);
        x.cut(1, 1);
        Check.refuses(x, "another one is not RIGHT", Check.STATE, () -> x.run(0, 0));
        Check.refuses(x, "no ENTRY goes ahead", Check.ARGUMENT, () -> x.run(1, 0));
        Check.refuses(x, "no method goes ahead", Check.INDEX, () -> x.run(2, 0));
        x.cut(1, 1);
        Check.same("RIGHT with an ABSTRACT one", x.run(0, 0), "=1");
        Check.same("the runs", x.house(5), 3);
    }

    /** runShrunk and areAlike: "nothing was SHRUNK"; "it is no ENTRY there". */
    private static void whoMayBeRunShrunk() {
        Shrinkforge x = Ops.program("class", "method 0 0 0 static entry: SCALL 0 4; RETURN", "method 0 1 0 static: PUSH 2; RETURN");
        Check.refuses(x, "nothing SHRUNK", Check.STATE, () -> x.runShrunk(0, 0));
        Check.refuses(x, "nothing SHRUNK, alike", Check.STATE, () -> x.areAlike(0, 0));
        Check.refuses(x, "nothing SHRUNK goes ahead", Check.STATE, () -> x.runShrunk(9, 0));
        Check.refuses(x, "nothing SHRUNK goes ahead, alike", Check.STATE, () -> x.areAlike(9, 0));
        x.shrink();
        for (int none : new int[] {-1, 1, 2, 24, 31, 32, LEAST, GREATEST}) {
            Check.refuses(x, "no ENTRY there " + none, Check.ARGUMENT, () -> x.runShrunk(none, 0));
            Check.refuses(x, "no ENTRY there, alike " + none, Check.ARGUMENT, () -> x.areAlike(none, 0));
        }
        x.entry(1, true);
        x.entry(0, false);
        Check.refuses(x, "an ENTRY since then", Check.ARGUMENT, () -> x.runShrunk(1, 0));
        Check.same("an ENTRY then", x.runShrunk(0, 0), "=2");
        Check.same("alike", x.areAlike(0, 0), true);
        x.shrink();
        Check.refuses(x, "none any more", Check.ARGUMENT, () -> x.runShrunk(0, 0));
        Check.same("one now", x.runShrunk(1, 0), "=2");
    }

    private static void result(String text, int told, String due) {
        Shrinkforge x = Ops.withEntry(text);
        x.cls(0, false);
        Check.same(text + " told " + told, x.run(0, told), due);
        Check.same("result() of " + text, x.result(), due);
        Check.same("SHRUNK: " + text, x.shrink() + x.runShrunk(0, told), "1" + due);
        Check.same("result() of the SHRUNK " + text, x.result(), due);
    }

    /** "= and the INT, =null, or = and the name of the class of an OBJECT as it was typed; ! (...); ? if it is OPEN". */
    private static void formsOfResult() {
        for (int told : new int[] {0, 1, -1, LEAST, GREATEST}) {
            result("LOAD 0; RETURN", told, "=" + told);
            result("LOAD 0; THROW", told, "!6:" + told);
        }
        result("NULL; RETURN", 0, "=null");
        result("NEW 0; RETURN", 0, "=C0");
        result("NEW 1; RETURN", 0, "=C1");
        result("NULL; NEG; RETURN", 0, "!3");
        result("JUMP 0", 0, "?");
        Shrinkforge x = Ops.program("class", "class", "class", "class", "class", "class", "class", "class",
                "method 0 0 0 static entry: NEW 7; RETURN");
        x.shrink();
        Check.same("its new name is a", x.newName(0, 7) + x.runShrunk(0, 0), "a=C7");
    }

    /** "! and the kind of what went wrong (with 6 : and the number behind it)". */
    private static void kindsOfWrong() {
        result("NULL; GET 0 0; RETURN", 0, "!1");
        result("PUSH 1; LOAD 0; DIV; RETURN", 0, "!2");
        result("NULL; PRINT; NULL; RETURN", 0, "!3");
        result("NEW 0; CAST 1; RETURN", 0, "!4");
        result("SGET 0 0; RETURN", 0, "!5");
        result("LOAD 0; THROW", -6, "!6:-6");
        result("LOAD 0; SCALL 0 1; RETURN", 0, "!7");
    }

    /** Prints 0, -1, -2 and so on, so many as it is told. */
    private static Shrinkforge printing() {
        return Ops.withEntry("LOAD 0; IF0 11; LOAD 1; PRINT; LOAD 1; PUSH 1; SUB; STORE 1; NOP; JUMP 12; NOP; JUMP 17; LOAD 0; PUSH 1;"
                + " SUB; STORE 0; JUMP 0; NULL; RETURN");
    }

    /** "OUT: the first 60 numbers that were printed, with a blank between two." */
    private static void outOf60() {
        Shrinkforge x = printing();
        x.shrink();
        StringBuilder due = new StringBuilder();
        for (int many = 0; many <= 64; many++) {
            if (many > 0 && many <= 60) {
                due.append(many == 1 ? "" : " ").append(1 - many);
            }
            if (many < 3 || many > 57) {
                Check.same("run " + many, x.run(0, many), "=null");
                Check.same("OUT of " + many, x.out(), due.toString());
                Check.same("printed " + many, x.ofRun(1), many);
                x.runShrunk(0, many);
                Check.same("OUT of " + many + " SHRUNK", x.out(), due.toString());
                Check.same("printed " + many + " SHRUNK", x.ofRun(1), many);
            }
        }
        Shrinkforge y = Ops.withEntry("LOAD 0; PRINT; PUSH -2147483648; PRINT; NULL; RETURN");
        y.run(0, GREATEST);
        Check.same("long ones", y.out(), "2147483647 -2147483648");
        Shrinkforge z = Ops.withEntry("PUSH 4; PRINT; JUMP 0");
        z.run(0, 0);
        Check.same("301 were printed", z.ofRun(1), 301);
        Check.same("60 are told", z.out(), "4" + " 4".repeat(59));
    }

    /** "OUT is empty" as a run begins. */
    private static void outIsEmptyAtFirst() {
        Shrinkforge x = printing();
        x.run(0, 3);
        Check.same("three", x.out(), "0 -1 -2");
        x.run(0, 1);
        Check.same("one", x.out() + x.ofRun(1), "01");
        x.run(0, 0);
        Check.same("none", x.out() + x.ofRun(1), "0");
        Shrinkforge y = Ops.withEntry("PUSH 3; PRINT; NULL; NEG; RETURN");
        y.run(0, 0);
        Check.same("also if it goes wrong", y.out(), "3");
    }

    /** "STATIC fields are 0 at first", in each run. */
    private static void staticsAreZeroAtFirst() {
        Shrinkforge x = Ops.program("class", "class 0", "field 0 0 static", "field 1 9 static",
                "method 0 0 1 static entry: SGET 0 0; SGET 1 9; ADD; PRINT; LOAD 0; SPUT 0 0; PUSH 4; SPUT 1 9; SGET 0 0; SGET 1 9; ADD;"
                        + " RETURN");
        x.shrink();
        for (int time = 0; time < 3; time++) {
            Check.same("run " + time, x.run(0, time) + x.out(), "=" + (4 + time) + "0");
            Check.same("runShrunk " + time, x.runShrunk(0, time) + x.out(), "=" + (4 + time) + "0");
        }
        x.areAlike(0, 9);
        Check.same("behind areAlike", x.run(0, 1) + x.out(), "=50");
    }

    /** A run has OBJECTS of its own: their cells are 0 at first, though a run before had as many. */
    private static void objectsBeginAnew() {
        Shrinkforge x = Ops.program("class", "field 0 0",
                "method 0 0 1 static entry locals 1: NEW 0; STORE 1; LOAD 1; GET 0 0; PRINT; LOAD 1; LOAD 0; PUT 0 0; LOAD 1; GET 0 0;"
                        + " RETURN");
        for (int told = 3; told < 6; told++) {
            Check.same("told " + told, x.run(0, told) + x.out(), "=" + told + "0");
        }
    }

    /** "of each method going on as it went wrong, the one that began last first, (...); a blank between two". */
    private static void traces() {
        Shrinkforge x = Ops.program("class", "class 0", "class 1", "method 0 0 1 static entry: NOP; LOAD 0; SCALL 1 61; RETURN",
                "method 1 15 1 static: NEW 2; LOAD 0; PUSH 5; PUSH 6; CALL 0 15; RETURN", "method 2 3 3: NOP; NOP; LOAD 1; THROW");
        Check.same("RESULT", x.run(0, 9), "!6:9");
        Check.same("TRACE", x.trace(), "C2.m3/3:3 C1.m15/1:4 C0.m0/1:2");
        Shrinkforge y = Ops.withEntry("LOAD 0; THROW");
        y.run(0, 1);
        Check.same("one", y.trace(), "C0.m0/1:1");
        Shrinkforge z = Ops.withEntry("LOAD 0; SCALL 0 1; RETURN");
        z.run(0, 1);
        Check.same("twelve", z.trace(), "C0.m0/1:1" + " C0.m0/1:1".repeat(11));
        Shrinkforge v = Ops.program("class", "method 0 0 0 static entry: SCALL 0 4; POP; NULL; NEG; RETURN",
                "method 0 1 0 static: NULL; RETURN");
        v.run(0, 0);
        Check.same("one that ended is not told", v.trace(), "C0.m0/0:3");
        Shrinkforge w = Ops.program("class", "method 0 0 0 static entry: NEW 0; CALL 0 20; RETURN");
        w.run(0, 0);
        Check.same("one that is not begun is not told", w.trace(), "C0.m0/0:1");
    }

    /** "TRACE, if RESULT starts with ! (...); otherwise an empty text". */
    private static void traceIsEmptyOtherwise() {
        Shrinkforge x = Ops.withEntry("LOAD 0; IF0 3; JUMP 2; PUSH 1; LOAD 0; DIV; RETURN");
        x.shrink();
        x.run(0, 0);
        Check.same("wrong", x.result() + x.trace() + x.raw(), "!2C0.m0/1:5C0.m0/1:5");
        x.run(0, 1);
        Check.same("OPEN", x.result() + x.trace() + x.raw(), "?");
        x.runShrunk(0, 0);
        Check.same("wrong, SHRUNK", x.result() + x.trace() + x.raw(), "!2C0.m0/1:5C0.m0/1:5");
        x.change(0, 5, Ops.ADD, 0, 0);
        x.run(0, 0);
        Check.same("fine", x.result() + x.trace() + x.raw(), "=1");
        Shrinkforge y = Ops.withEntry("NULL; NEG; RETURN; RETURN");
        y.guard(0, 1, 2, 3);
        Check.same("caught", y.run(0, 0) + y.trace() + y.raw(), "=-3");
    }

    /** "of another run RAW is TRACE". */
    private static void rawOfTheTyped() {
        Shrinkforge x = Ops.program("class", "class", "method 0 0 0 static entry: NOP; SCALL 1 4; RETURN",
                "method 1 1 0 static: NOP; NULL; NEG; RETURN");
        x.shrink();
        x.run(0, 0);
        Check.same("TRACE", x.trace(), "C1.m1/0:2 C0.m0/0:1");
        Check.same("RAW", x.raw(), "C1.m1/0:2 C0.m0/0:1");
    }

    /** "RAW of a run of a SHRUNK program: the same with new names, and places of the FOLDED code". */
    private static void rawOfTheShrunk() {
        Shrinkforge x = Ops.program("class", "class", "class named", "method 0 0 0 static entry: NOP; SCALL 1 4; RETURN",
                "method 1 1 0 static: NOP; PUSH 1; PUSH 2; ADD; SCALL 2 9; RETURN", "method 2 2 1 static: JUMP 2; NOP; NULL; NEG; RETURN");
        x.shrink();
        x.runShrunk(0, 0);
        Check.same("RESULT", x.result(), "!3");
        Check.same("TRACE", x.trace(), "C2.m2/1:3 C1.m1/0:4 C0.m0/0:1");
        Check.same("RAW", x.raw(), "C2.a/1:1 a.a/0:1 C0.m0/0:0");
        x.run(0, 0);
        Check.same("RAW of the typed one", x.raw(), "C2.m2/1:3 C1.m1/0:4 C0.m0/0:1");
        Check.same("ofRun", x.ofRun(3), 0);
    }

    /** "A run of the SHRUNK program is one of it as it was shrunk last, whatever was typed since." */
    private static void asItWasShrunkLast() {
        Shrinkforge x = Ops.program("class", "class named", "field 0 0 static", "method 0 0 1 static entry: LOAD 0; NEWBY; RETURN",
                "method 0 1 0 static: PUSH 1; RETURN");
        x.shrink();
        Check.same("NAMED", x.runShrunk(0, 1), "=C1");
        x.named(1, false);
        Check.same("not NAMED since", x.runShrunk(0, 1), "=C1");
        x.change(0, 1, Ops.NEG, 0, 0);
        Check.same("changed since", x.runShrunk(0, 1), "=C1");
        x.entry(0, false);
        Check.same("no ENTRY since", x.runShrunk(0, 1), "=C1");
        x.cut(0, 3);
        Check.same("cut since", x.runShrunk(0, 1), "=C1");
        x.cls(1, false);
        x.field(1, 0, false);
        x.method(1, 0, 1, true, 0);
        Check.same("more since", x.runShrunk(0, 1) + x.areAlike(0, 1), "=C1true");
        Check.same("refused since", x.shrink(), -9);
        Check.same("still", x.runShrunk(0, 1), "=C1");
        x.sample(1);
        Check.same("a SAMPLE since", x.runShrunk(0, 1) + x.areAlike(0, 5) + x.isSound(), "=C1truetrue");
        x.shrink();
        Check.same("as it was shrunk last", x.runShrunk(0, 1), "=1");
        Check.same("its OUT", x.out(), "5 4 3 2 1");
        x.wipe();
        Check.refuses(x, "wiped", Check.STATE, () -> x.runShrunk(0, 1));
    }

    /** "whether both come to the same RESULT, OUT, BEATS and TRACE (it counts as no run)". */
    private static void alike() {
        String[] texts = {"LOAD 0; RETURN", "LOAD 0; THROW", "JUMP 0", "NOP; PUSH 1; LOAD 0; DIV; PRINT; NULL; RETURN",
            "LOAD 0; IF0 4; NOP; JUMP 0; NEW 0; RETURN", "LOAD 0; SCALL 0 1; RETURN", "LOAD 0; PRINT; JUMP 0"};
        for (String text : texts) {
            Shrinkforge x = Ops.withEntry(text);
            x.shrink();
            for (int told : new int[] {0, 1, -1, LEAST, GREATEST}) {
                Check.same("alike: " + text + " told " + told, x.areAlike(0, told), true);
            }
            Check.same("no run: " + text, x.house(5), 0);
            Check.same("nothing of a last run: " + text, x.result() + x.out() + x.trace() + x.raw(), "");
            Check.same("numbers of a last run: " + text, x.ofRun(0) + x.ofRun(1) + x.ofRun(2) + x.ofRun(3) + x.begun(0), 0);
        }
    }

    /** areAlike, again, isSound and digest leave the last run, and all else, as it was. */
    private static void unlikeInNothing() {
        Shrinkforge x = new Shrinkforge();
        x.sample(2);
        x.shrink();
        x.runShrunk(2, 0);
        long before = x.digest();
        x.areAlike(0, 7);
        Check.same("areAlike", x.digest(), before);
        x.again();
        Check.same("again", x.digest(), before);
        x.isSound();
        Check.same("isSound", x.digest(), before);
        Check.same("digest", x.digest(), before);
        Check.same("the last run", x.result() + x.trace() + x.raw() + x.ofRun(3), "!2C0.m1/1:2 C0.m2/1:2C0.a/1:2 C0.m2/1:11");
    }

    private static void aRefusedRunChangesNothing() {
        Shrinkforge x = new Shrinkforge();
        x.sample(2);
        x.shrink();
        x.run(2, 0);
        Check.refuses(x, "no method", Check.INDEX, () -> x.run(3, 1));
        Check.refuses(x, "no ENTRY", Check.ARGUMENT, () -> x.run(1, 1));
        Check.refuses(x, "no ENTRY there", Check.ARGUMENT, () -> x.runShrunk(1, 1));
        x.change(1, 0, Ops.POP, 0, 0);
        Check.refuses(x, "not RIGHT", Check.STATE, () -> x.run(0, 1));
        Check.same("the last run", x.result() + x.trace() + x.house(5), "!2C0.m1/1:2 C0.m2/1:21");
    }

    /** begun: "how often it was begun"; ofRun(2): "the most methods that were going on at once". */
    private static void begunAndMost() {
        Shrinkforge x = Ops.program("class", "method 0 0 0 static entry: NULL; RETURN",
                "method 0 1 0 static entry: SCALL 0 8; POP; SCALL 0 8; POP; SCALL 0 12; RETURN",
                "method 0 2 0 static: SCALL 0 12; RETURN", "method 0 3 0 static: NULL; RETURN");
        x.shrink();
        for (int time = 0; time < 2; time++) {
            String shrunk = time == 0 ? x.run(0, 0) : x.runShrunk(0, 0);
            Check.same("one is going on", shrunk + x.ofRun(2), "=null1");
            Check.same("begun once", x.begun(0) * 1000 + x.begun(1) * 100 + x.begun(2) * 10 + x.begun(3), 1000);
            String more = time == 0 ? x.run(1, 0) : x.runShrunk(1, 0);
            Check.same("three are going on", more + x.ofRun(2), "=null3");
            Check.same("begun", x.begun(0) * 1000 + x.begun(1) * 100 + x.begun(2) * 10 + x.begun(3), 123);
            Check.same("no others", x.begun(-1) + x.begun(4) + x.begun(23) + x.begun(24), 0);
            Check.same("BEATS", x.ofRun(0), 5);
        }
    }

    /** Of the last run, whatever comes then but a run. */
    private static void theLastRunStays() {
        Shrinkforge x = new Shrinkforge();
        x.sample(2);
        x.shrink();
        x.runShrunk(2, 0);
        String due = "!2C0.m1/1:2 C0.m2/1:2C0.a/1:2 C0.m2/1:11121";
        Check.same("at once", lastRun(x), due);
        x.sample(0);
        Check.same("a SAMPLE", lastRun(x), due);
        x.shrink();
        Check.same("SHRUNK", lastRun(x), due);
        x.wipe();
        Check.same("wiped", lastRun(x), due);
        x.knock();
        x.cls(-1, false);
        Check.same("typed", lastRun(x), due);
    }

    private static String lastRun(Shrinkforge x) {
        return x.result() + x.out() + x.trace() + x.raw() + x.ofRun(0) + x.ofRun(3) + x.ofRun(2) + x.begun(1);
    }
}
