/** The boundaries of section 2 for RIGHT, and of section 3 for LIVE. */
final class RightBoundaryTest {
    /** The OPs with what they need, what they take and what they put; Sn are signatures of ARITY n. */
    private static final String[] TABLE = {
        "PUSH 5|0|1", "LOAD 0|0|1", "STORE 0|1|0", "POP|1|0", "DUP|1|2", "SWAP|2|2", "ADD|2|1", "SUB|2|1", "MUL|2|1",
        "DIV|2|1", "REM|2|1", "LESS|2|1", "SAME|2|1", "NEG|1|1", "NULL|0|1", "NEW 0|0|1", "NEWBY|1|1", "GET 0 0|1|1",
        "PUT 0 0|2|0", "SGET 0 0|0|1", "SPUT 0 0|1|0", "CALL 0 4|1|1", "CALL 0 5|2|1", "CALL 0 6|3|1", "CALL 0 7|4|1",
        "DCALL 0 4|1|1", "DCALL 0 5|2|1", "DCALL 0 6|3|1", "DCALL 0 7|4|1", "SCALL 0 4|0|1", "SCALL 0 5|1|1",
        "SCALL 0 6|2|1", "SCALL 0 7|3|1", "CAST 0|1|1", "ISA 0|1|1", "PRINT|1|0", "NOP|0|0"};

    public static void main(String[] args) {
        neverBelowWhatIsTaken();
        neverAbove12();
        whatIsPut();
        endsTake();
        sameByAllWays();
        beginsWithHeight0();
        onlyPlacesThatAreComeTo();
        noWayBehindTheLastOne();
        placesToGoOnAt();
        fromBelowTo();
        handlers();
        classesAreThere();
        abstractOnes();
        ofAnInterface();
        programs();
        live();
        Check.finish("RightBoundaryTest");
    }

    private static void right(String text, boolean due) {
        Check.same(text, Ops.withEntry(text).isRight(0), due);
    }

    /** "never below what the INSTRUCTION takes (1 with DUP, 2 with SWAP)". */
    private static void neverBelowWhatIsTaken() {
        for (String row : TABLE) {
            String[] parts = row.split("\\|");
            int takes = Integer.parseInt(parts[1]);
            right(Ops.pushes(takes) + parts[0] + "; NULL; RETURN", true);
            if (takes > 0) {
                right(Ops.pushes(takes - 1) + parts[0] + "; NULL; RETURN", false);
            }
        }
    }

    /** "never above 12 behind it". */
    private static void neverAbove12() {
        for (String row : TABLE) {
            String[] parts = row.split("\\|");
            int more = Integer.parseInt(parts[2]) - Integer.parseInt(parts[1]);
            if (more > 0) {
                right(Ops.pushes(12 - more) + parts[0] + "; RETURN", true);
                right(Ops.pushes(13 - more) + parts[0] + "; RETURN", false);
            } else {
                right(Ops.pushes(12) + parts[0] + "; NULL; SAME; RETURN", more < 0);
                right(Ops.pushes(12) + parts[0] + "; RETURN", true);
            }
        }
        right(Ops.pushes(12) + "IF0 13; RETURN", true);
        right(Ops.pushes(12) + "JUMP 13; RETURN", true);
        right(Ops.pushes(13) + "RETURN", false);
        right(Ops.pushes(12) + "THROW", true);
    }

    /** What each puts: so many can be taken behind it, and not one more. */
    private static void whatIsPut() {
        for (String row : TABLE) {
            String[] parts = row.split("\\|");
            int puts = Integer.parseInt(parts[2]);
            String start = Ops.pushes(Integer.parseInt(parts[1])) + parts[0] + "; ";
            right(start + "POP; ".repeat(puts) + "NULL; RETURN", true);
            right(start + "POP; ".repeat(puts + 1) + "NULL; RETURN", false);
        }
    }

    /** RETURN, THROW and IF0 take one, JUMP none. */
    private static void endsTake() {
        right("RETURN", false);
        right("PUSH 1; RETURN", true);
        right("PUSH 1; PUSH 1; RETURN", true);
        right("THROW", false);
        right("PUSH 1; THROW", true);
        right("IF0 1; NULL; RETURN", false);
        right("PUSH 1; IF0 2; NULL; RETURN", true);
        right("PUSH 1; IF0 2; RETURN", false);
        right("JUMP 1; NULL; RETURN", true);
        right("PUSH 1; JUMP 2; RETURN", true);
    }

    /** "of each place that can be come to the HEIGHT is the same by all ways". */
    private static void sameByAllWays() {
        right("LOAD 0; IF0 3; NOP; NULL; RETURN", true);
        right("LOAD 0; IF0 3; NULL; NULL; RETURN", false);
        right("LOAD 0; IF0 4; NULL; POP; NULL; RETURN", true);
        right("LOAD 0; IF0 5; NULL; JUMP 6; NOP; NULL; RETURN", true);
        right("LOAD 0; IF0 5; NULL; JUMP 6; NOP; NOP; RETURN", false);
        right("LOAD 0; LOAD 0; IF0 4; PRINT; NULL; RETURN", false);
        right("LOAD 0; LOAD 0; IF0 5; PRINT; NULL; RETURN", true);
        right("NULL; LOAD 0; IF0 1; RETURN", true);
        right("NULL; LOAD 0; IF0 0; RETURN", false);
        right("LOAD 0; IF0 0; NULL; RETURN", true);
        right("LOAD 0; DUP; IF0 1; RETURN", true);
        right("LOAD 0; NULL; JUMP 1", false);
        right("LOAD 0; NULL; POP; JUMP 1", true);
    }

    /** "HEIGHT (...) 0 as a method begins": a way back to the place 0 must have it, too. */
    private static void beginsWithHeight0() {
        right("JUMP 0", true);
        right("NOP; JUMP 0", true);
        right("NULL; JUMP 0", false);
        right("NULL; POP; JUMP 0", true);
        Shrinkforge x = Ops.withEntry("NOP; NULL; RETURN");
        x.guard(0, 1, 2, 0);
        Check.same("a HANDLER is come to with 1, the place 0 with 0", x.isRight(0), false);
    }

    /** "of each place that can be come to": heights of others are not looked at. */
    private static void onlyPlacesThatAreComeTo() {
        right("NULL; RETURN; POP; POP", true);
        right("NULL; RETURN; ADD; JUMP 2", true);
        right("JUMP 3; POP; POP; NULL; RETURN", true);
        right("NULL; RETURN; " + Ops.pushes(13) + "RETURN", true);
        right("NULL; RETURN; NULL; JUMP 0", true);
        right("LOAD 0; THROW; NOP", true);
        right("JUMP 2; JUMP 2; NULL; RETURN", true);
    }

    /** "no way leads from such a place behind the last one". */
    private static void noWayBehindTheLastOne() {
        right("NULL", false);
        right("NOP", false);
        right("NULL; POP", false);
        right("LOAD 0; IF0 0", false);
        right("NULL; RETURN; NOP", true);
        right("NULL; THROW", true);
        right("NULL; RETURN", true);
        right("NOP; JUMP 0", true);
        right("NULL; SCALL 0 0", false);
        String thirty = "NOP; ".repeat(28);
        right(thirty + "NULL; RETURN", true);
        right(thirty + "NULL; POP", false);
        right(thirty + "NOP; JUMP 0", true);
    }

    /** "each place to go on at (...) is in it", also of places that are never come to. */
    private static void placesToGoOnAt() {
        for (String start : new String[] {"NULL; RETURN; ", "LOAD 0; IF0 2; NULL; RETURN; "}) {
            int own = start.split(";").length - 1;
            for (String op : new String[] {"JUMP ", "IF0 "}) {
                right(start + op + 0, true);
                right(start + op + own, true);
                right(start + op + (own + 1), false);
                right(start + op + -1, false);
                right(start + op + Integer.MIN_VALUE, false);
                right(start + op + Integer.MAX_VALUE, false);
                right(start + op + 32, false);
            }
        }
        right("JUMP 1; NULL; RETURN", true);
        right("JUMP 3; NULL; RETURN", false);
        right("LOAD 0; IF0 3; NULL; RETURN", false);
        right("NOP; ".repeat(27) + "JUMP 28; NULL; RETURN", true);
        right("NOP; ".repeat(27) + "JUMP 30; NULL; RETURN", false);
        right("NOP; ".repeat(27) + "JUMP -1; NULL; RETURN", false);
    }

    private static void guarded(String text, int from, int to, int handler, boolean due) {
        Shrinkforge x = Ops.withEntry(text);
        x.guard(0, from, to, handler);
        Check.same(text + " guard " + from + " " + to + " " + handler, x.isRight(0), due);
        if (text.startsWith("NULL; RETURN; RETURN")) {
            Shrinkforge y = Ops.withEntry(text);
            y.guard(0, 0, 1, 2);
            y.guard(0, from, to, handler);
            Check.same(text + " second guard " + from + " " + to + " " + handler, y.isRight(0), due);
        }
    }

    /** "each GUARD, is in it (from below to, to at most how many INSTRUCTIONS there are)". */
    private static void fromBelowTo() {
        String code = "NULL; RETURN; RETURN";
        guarded(code, 0, 1, 2, true);
        guarded(code, 1, 1, 2, false);
        guarded(code, 0, 0, 2, false);
        guarded(code, 2, 1, 2, false);
        guarded(code, 2, 2, 2, false);
        guarded(code, 2, 3, 2, true);
        guarded(code, 0, 3, 2, true);
        guarded(code, 0, 4, 2, false);
        guarded(code, 3, 3, 2, false);
        guarded(code, 3, 4, 2, false);
        guarded(code, 0, 30, 2, false);
        String thirty = "NULL; RETURN; RETURN; " + "NOP; ".repeat(27);
        guarded(thirty, 0, 30, 2, true);
        guarded(thirty, 29, 30, 2, true);
        guarded(thirty, 30, 30, 2, false);
        guarded(thirty, 0, 1, 29, false);
        guarded(thirty, 0, 1, 30, false);
    }

    /** "A HANDLER is come to with the HEIGHT 1"; it is a place in the method, and come to if a place of the GUARD is. */
    private static void handlers() {
        guarded("NULL; RETURN; RETURN", 0, 2, 1, true);
        guarded("NULL; RETURN; RETURN", 0, 2, 3, false);
        guarded("NULL; RETURN; RETURN", 0, 2, 0, false);
        guarded("NULL; RETURN; RETURN; POP; NULL; RETURN", 0, 2, 3, true);
        guarded("NULL; RETURN; RETURN; POP; POP; NULL; RETURN", 0, 2, 3, false);
        guarded("NULL; RETURN; RETURN; NULL; SAME; RETURN", 0, 2, 3, true);
        guarded("NULL; RETURN; RETURN; SAME; RETURN", 0, 2, 3, false);
        guarded("NULL; RETURN; RETURN; SAME; RETURN", 3, 5, 3, true);
        guarded("NULL; NULL; RETURN; RETURN", 0, 1, 3, true);
        guarded("NULL; NULL; RETURN; RETURN", 0, 1, 2, false);
        String eleven = "NULL; RETURN; RETURN; ";
        guarded(eleven + Ops.pushes(11) + "RETURN", 0, 1, 3, true);
        guarded(eleven + Ops.pushes(12) + "RETURN", 0, 1, 3, false);
        guarded("NULL; RETURN; RETURN; PRINT", 0, 1, 3, false);
        guarded("NULL; RETURN; RETURN; PRINT", 2, 3, 2, true);
        // the HANDLER has its own GUARD, too, and is come to with 1 again
        guarded("NULL; RETURN; RETURN", 0, 3, 2, true);
        guarded("NULL; RETURN; RETURN; NULL; THROW", 2, 5, 3, true);
        guarded("NULL; RETURN; NULL; THROW", 2, 4, 2, true);
        guarded("LOAD 0; PRINT; NULL; THROW", 2, 4, 2, false);
    }

    /** "classes that are told are there". */
    private static void classesAreThere() {
        for (String op : new String[] {"NEW", "GET", "PUT", "SGET", "SPUT", "CALL", "DCALL", "SCALL", "CAST", "ISA"}) {
            for (int a : new int[] {-1, 0, 1, 2, 8, 31, 32, Integer.MIN_VALUE, Integer.MAX_VALUE}) {
                Shrinkforge x = Ops.program("class", "interface",
                        "method 0 0 0: NULL; NULL; NULL; " + op + " " + a + "; NULL; RETURN");
                Check.same(op + " " + a, x.isRight(0), a == 0 || a == 1);
                Shrinkforge y = Ops.program("class", "interface", "method 0 0 0: NULL; RETURN; " + op + " " + a);
                Check.same("never come to: " + op + " " + a, y.isRight(0), a == 0 || a == 1);
            }
        }
        Shrinkforge z = Ops.program("class", "method 0 0 0: NEW 1; RETURN");
        Check.same("not there yet", z.isRight(0), false);
        z.cls(-1, false);
        Check.same("there now", z.isRight(0), true);
        right("PUSH 99; NEWBY; RETURN", true);
        right("NULL; GET 0 63; RETURN", true);
        right("SCALL 0 60; RETURN", true);
    }

    /** "ABSTRACT (then it must not be an ENTRY, nor have GUARDS)". */
    private static void abstractOnes() {
        Shrinkforge x = Ops.program("class", "method 0 0 0 static");
        Check.same("ABSTRACT", x.isRight(0), true);
        x.entry(0, true);
        Check.same("an ENTRY", x.isRight(0), false);
        Check.same("nor the program", x.areRight(), false);
        x.entry(0, false);
        Check.same("none any more", x.isRight(0), true);
        x.guard(0, 0, 1, 0);
        Check.same("a GUARD", x.isRight(0), false);
        x.guard(0, 0, 1, 0);
        Check.same("two GUARDS", x.isRight(0), false);
        x.cut(0, 0);
        Check.same("without them", x.isRight(0), true);
    }

    /** "A method of an INTERFACE that is not ABSTRACT is not RIGHT." */
    private static void ofAnInterface() {
        Shrinkforge x = Ops.program("interface", "method 0 0 0", "method 0 1 0 static", "method 0 2 0: NULL; RETURN",
                "method 0 3 0 static: NULL; RETURN", "class", "method 1 2 0: NULL; RETURN");
        Check.same("ABSTRACT", x.isRight(0), true);
        Check.same("ABSTRACT and STATIC", x.isRight(1), true);
        Check.same("not ABSTRACT", x.isRight(2), false);
        Check.same("not ABSTRACT, but STATIC", x.isRight(3), false);
        Check.same("of a class", x.isRight(4), true);
        x.guard(0, 0, 1, 0);
        Check.same("ABSTRACT with a GUARD", x.isRight(0), false);
    }

    /** "A program is RIGHT if all its methods are RIGHT, and it has an ENTRY." */
    private static void programs() {
        Shrinkforge x = Ops.program("class", "method 0 0 0 static: NULL; RETURN", "method 0 1 0 static: NULL; RETURN");
        refused(x, "no ENTRY");
        x.entry(1, true);
        Check.same("one ENTRY", x.areRight(), true);
        Check.same("SHRUNK", x.shrink(), 1);
        x.entry(0, true);
        Check.same("two ENTRIES", x.shrink(), 2);
        x.cut(0, 1);
        refused(x, "the first is not RIGHT");
        x.code(0, Ops.RETURN, 0, 0);
        Check.same("RIGHT again", x.areRight(), true);
        x.method(0, 2, 0, false, 0);
        Check.same("with an ABSTRACT one", x.areRight(), true);
        x.code(2, Ops.NOP, 0, 0);
        refused(x, "the last is not RIGHT, and no ENTRY");
        x.cut(2, 1);
        x.entry(0, false);
        x.entry(1, false);
        refused(x, "no ENTRY any more");
        Check.same("an empty one is not RIGHT", new Shrinkforge().areRight(), false);
        Check.same("classes alone are not", Ops.program("class").shrink(), -9);
    }

    /** "-9 (REFUSED) (...); nothing changes then." */
    private static void refused(Shrinkforge x, String why) {
        Check.same(why, x.areRight(), false);
        long before = x.digest();
        Check.same("refused: " + why, x.shrink(), -9);
        Check.same("nothing changes: " + why, x.digest(), before);
        for (int m = 0; m < x.house(2); m++) {
            int method = m;
            boolean isEntry = x.ofMethod(m, 7) == 1;
            Check.refuses(x, "no run: " + why, isEntry ? Check.STATE : Check.ARGUMENT, () -> x.run(method, 0));
        }
    }

    private static String livePlaces(Shrinkforge x) {
        StringBuilder got = new StringBuilder();
        for (int place = 0; place < x.ofMethod(0, 5); place++) {
            got.append(x.isLive(0, place) ? '1' : '0');
        }
        return got.toString();
    }

    private static void live(String text, String due) {
        Check.same("live: " + text, livePlaces(Ops.withEntry(text)), due);
    }

    /** "LIVE is the place 0; where a LIVE place goes on (...)"; "ways out of it lead nowhere". */
    private static void live() {
        live("RETURN", "1");
        live("THROW; NOP", "10");
        live("RETURN; NOP", "10");
        live("JUMP 0; NOP", "10");
        live("JUMP 1; NOP", "11");
        live("JUMP 2; NOP; NOP", "101");
        live("IF0 2; NOP; NOP", "111");
        live("IF0 3; RETURN; NOP; NOP", "1101");
        live("JUMP 3; NOP; NOP", "100");
        live("JUMP -1; NOP", "10");
        live("IF0 99; RETURN; NOP", "110");
        live("JUMP 32; NOP", "10");
        live("NOP; ".repeat(29) + "NOP", "1".repeat(30));
        live("JUMP 29; " + "NOP; ".repeat(28) + "JUMP 28", "1" + "0".repeat(27) + "11");
        StringBuilder back = new StringBuilder("JUMP 29; RETURN");
        for (int place = 2; place < 30; place++) {
            back.append("; JUMP ").append(place - 1);
        }
        live(back.toString(), "1".repeat(30));
        guardLive("NULL; RETURN; NOP; RETURN; RETURN", 0, 1, 4, "11001");
        guardLive("NULL; RETURN; NOP; RETURN; RETURN", 1, 2, 4, "11001");
        guardLive("NULL; RETURN; NOP; RETURN; RETURN", 2, 3, 4, "11000");
        guardLive("NULL; RETURN; NOP; RETURN; RETURN", 2, 5, 4, "11000");
        guardLive("NULL; RETURN; NOP; RETURN; RETURN", 0, 0, 4, "11000");
        guardLive("NULL; RETURN; NOP; RETURN; RETURN", 2, 1, 4, "11000");
        guardLive("NULL; RETURN; NOP; RETURN; RETURN", 0, 1, 2, "11110");
        guardLive("NULL; RETURN; NOP; RETURN; RETURN", 0, 1, 5, "11000");
        guardLive("NULL; RETURN; NOP; RETURN; RETURN", 0, 30, 3, "11010");
        Shrinkforge x = Ops.withEntry("NULL; RETURN; RETURN; RETURN");
        x.guard(0, 2, 3, 3);
        x.guard(0, 1, 2, 2);
        Check.same("the HANDLER of a HANDLER", livePlaces(x), "1111");
    }

    private static void guardLive(String text, int from, int to, int handler, String due) {
        Shrinkforge x = Ops.withEntry(text);
        x.guard(0, from, to, handler);
        Check.same("live: " + text + " guard " + from + " " + to + " " + handler, livePlaces(x), due);
    }
}
