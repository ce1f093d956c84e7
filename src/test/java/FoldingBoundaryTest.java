/** The boundaries of section 3: taking a place out, the foldings (a) to (f) and what hinders them, ORIGIN. */
final class FoldingBoundaryTest {
    public static void main(String[] args) {
        nops();
        negs();
        twoNumbers();
        divisionsByZero();
        ifs();
        putAndTaken();
        jumps();
        waysToTheSecond();
        waysToTheFirst();
        waysToTheThird();
        handlersToThem();
        placesBehindComeAhead();
        guardsOfWhatIsTakenOut();
        guardsAlikeAreOut();
        deadOnesFirst();
        againAndAgain();
        origins();
        thirtyPlaces();
        notRightOrAbstract();
        typedCodeStays();
        Check.finish("FoldingBoundaryTest");
    }

    /** FOLDED code as "OP a b@ORIGIN", "; " between two, without b where the OP needs none. */
    private static String folded(Shrinkforge x) {
        return Ops.foldedCode(x, 0).replace(" 0@", "@");
    }

    private static void folds(String text, String due) {
        Check.same(text, folded(Ops.withEntry(text)), due);
    }

    /** "(a) a NOP: p is taken out", also if something goes to it. */
    private static void nops() {
        folds("NOP; NULL; RETURN", "NULL 0@1; RETURN 0@2");
        folds("NULL; NOP; RETURN", "NULL 0@0; RETURN 0@2");
        folds("NULL; NOP; NOP; NOP; RETURN", "NULL 0@0; RETURN 0@4");
        folds("LOAD 0; IF0 3; NOP; NOP; NULL; RETURN", "LOAD 0@0; IF0 2@1; NULL 0@4; RETURN 0@5");
        folds("NOP; LOAD 0; IF0 0; NULL; RETURN", "LOAD 0@1; IF0 0@2; NULL 0@3; RETURN 0@4");
        folds("NOP; JUMP 0", "JUMP 0@1");
        folds("NULL; RETURN; NOP", "NULL 0@0; RETURN 0@1");
    }

    /** "(b) PUSH, then NEG: a becomes -a, p + 1 is taken out", which wraps around. */
    private static void negs() {
        folds("PUSH 5; NEG; RETURN", "PUSH -5@0; RETURN 0@2");
        folds("PUSH 0; NEG; RETURN", "PUSH 0@0; RETURN 0@2");
        folds("PUSH -2147483648; NEG; RETURN", "PUSH -2147483648@0; RETURN 0@2");
        folds("PUSH 2147483647; NEG; RETURN", "PUSH -2147483647@0; RETURN 0@2");
        folds("PUSH 5; NEG; NEG; NEG; RETURN", "PUSH -5@0; RETURN 0@4");
        folds("LOAD 0; NEG; RETURN", "LOAD 0@0; NEG 0@1; RETURN 0@2");
        folds("NULL; NEG; RETURN", "NULL 0@0; NEG 0@1; RETURN 0@2");
        folds("NEW 0; NEG; RETURN", "NEW 0@0; NEG 0@1; RETURN 0@2");
    }

    /** "(c) PUSH, PUSH, then one of ADD to SAME: the a at p becomes what comes of it". */
    private static void twoNumbers() {
        String[][] rows = {{"ADD", "9", "7", "16"}, {"ADD", "2147483647", "1", "-2147483648"}, {"SUB", "9", "7", "2"},
            {"SUB", "-2147483648", "1", "2147483647"}, {"MUL", "9", "7", "63"}, {"MUL", "65536", "65536", "0"},
            {"MUL", "46341", "46341", "-2147479015"}, {"DIV", "9", "7", "1"}, {"DIV", "-9", "2", "-4"}, {"DIV", "9", "-2", "-4"},
            {"DIV", "0", "7", "0"}, {"DIV", "-2147483648", "-1", "-2147483648"}, {"DIV", "9", "1", "9"}, {"DIV", "9", "-1", "-9"},
            {"REM", "9", "7", "2"}, {"REM", "-9", "2", "-1"}, {"REM", "9", "-2", "1"}, {"REM", "-2147483648", "-1", "0"},
            {"LESS", "2", "3", "1"}, {"LESS", "3", "3", "0"}, {"LESS", "-2147483648", "2147483647", "1"}, {"SAME", "3", "3", "1"},
            {"SAME", "3", "4", "0"}, {"SAME", "-1", "-1", "1"}};
        for (String[] row : rows) {
            folds("PUSH " + row[1] + "; PUSH " + row[2] + "; " + row[0] + "; RETURN", "PUSH " + row[3] + "@0; RETURN 0@3");
        }
        for (String op : new String[] {"SWAP", "DUP", "NOP; SWAP"}) {
            String last = op.replace("NOP; ", "");
            int place = op.startsWith("NOP") ? 3 : 2;
            folds("PUSH 1; PUSH 2; " + op + "; RETURN",
                    "PUSH 1@0; PUSH 2@1; " + last + " 0@" + place + "; RETURN 0@" + (place + 1));
        }
        folds("PUSH 1; LOAD 0; ADD; RETURN", "PUSH 1@0; LOAD 0@1; ADD 0@2; RETURN 0@3");
        folds("LOAD 0; PUSH 1; ADD; RETURN", "LOAD 0@0; PUSH 1@1; ADD 0@2; RETURN 0@3");
        folds("NULL; PUSH 1; SAME; RETURN", "NULL 0@0; PUSH 1@1; SAME 0@2; RETURN 0@3");
        folds("NULL; NULL; SAME; RETURN", "NULL 0@0; NULL 0@1; SAME 0@2; RETURN 0@3");
        folds("PUSH 1; PUSH 2; PUT 0 0; NULL; RETURN", "PUSH 1@0; PUSH 2@1; PUT 0@2; NULL 0@3; RETURN 0@4");
    }

    /** "(DIV and REM only if the second number is not 0)". */
    private static void divisionsByZero() {
        folds("PUSH 1; PUSH 0; DIV; RETURN", "PUSH 1@0; PUSH 0@1; DIV 0@2; RETURN 0@3");
        folds("PUSH 1; PUSH 0; REM; RETURN", "PUSH 1@0; PUSH 0@1; REM 0@2; RETURN 0@3");
        folds("PUSH 0; PUSH 0; DIV; RETURN", "PUSH 0@0; PUSH 0@1; DIV 0@2; RETURN 0@3");
        folds("PUSH 0; PUSH 1; DIV; RETURN", "PUSH 0@0; RETURN 0@3");
        folds("PUSH 0; PUSH 1; REM; RETURN", "PUSH 0@0; RETURN 0@3");
        folds("PUSH 3; PUSH 0; MUL; RETURN", "PUSH 0@0; RETURN 0@3");
        folds("PUSH 3; PUSH 0; SUB; RETURN", "PUSH 3@0; RETURN 0@3");
        folds("PUSH 8; PUSH 2; PUSH 2; SUB; DIV; RETURN", "PUSH 8@0; PUSH 0@1; DIV 0@4; RETURN 0@5");
        folds("PUSH 1; PUSH 0; DIV; PUSH 5; NEG; ADD; NOP; RETURN",
                "PUSH 1@0; PUSH 0@1; DIV 0@2; PUSH -5@3; ADD 0@5; RETURN 0@7");
        folds("PUSH 1; PUSH 0; REM; PUSH 5; POP; PUSH 6; PUSH 7; ADD; ADD; RETURN",
                "PUSH 1@0; PUSH 0@1; REM 0@2; PUSH 13@5; ADD 0@8; RETURN 0@9");
    }

    /** "(d) PUSH, then IF0: if the number is 0, a JUMP to the same place stands at p (...); otherwise (...) are taken out". */
    private static void ifs() {
        for (String number : new String[] {"1", "-1", "-2147483648", "2147483647", "256"}) {
            folds("PUSH " + number + "; IF0 4; PUSH 8; RETURN; PUSH 9; RETURN", "PUSH 8@2; RETURN 0@3");
        }
        folds("PUSH 0; IF0 4; PUSH 8; RETURN; PUSH 9; RETURN", "PUSH 9@4; RETURN 0@5");
        folds("NULL; POP; PUSH 0; IF0 2; NULL; RETURN", "JUMP 0@2");
        folds("PUSH 0; IF0 0; NULL; RETURN", "JUMP 0@0");
        folds("PUSH 5; IF0 0; NULL; RETURN", "NULL 0@2; RETURN 0@3");
        folds("LOAD 0; PUSH 0; IF0 0; RETURN", "none");
        folds("LOAD 0; PRINT; PUSH 0; IF0 0; NULL; RETURN", "LOAD 0@0; PRINT 0@1; JUMP 0@2");
        folds("LOAD 0; PRINT; PUSH 0; IF0 1; NULL; RETURN", "none");
        folds("LOAD 0; IF0 4; PUSH 0; IF0 6; PUSH 7; RETURN; PUSH 8; RETURN",
                "LOAD 0@0; IF0 3@1; JUMP 5@2; PUSH 7@4; RETURN 0@5; PUSH 8@6; RETURN 0@7");
        folds("LOAD 0; IF0 2; NULL; RETURN", "LOAD 0@0; IF0 2@1; NULL 0@2; RETURN 0@3");
        folds("NULL; IF0 2; NULL; RETURN", "NULL 0@0; IF0 2@1; NULL 0@2; RETURN 0@3");
        folds("PUSH 0; IF0 2; NULL; RETURN", "NULL 0@2; RETURN 0@3");
    }

    /** "(e) PUSH, LOAD or NULL, then POP: p + 1 and p are taken out". */
    private static void putAndTaken() {
        for (String put : new String[] {"PUSH 4", "LOAD 0", "NULL", "PUSH 0"}) {
            folds(put + "; POP; NULL; RETURN", "NULL 0@2; RETURN 0@3");
        }
        for (String put : new String[] {"NEW 0", "SGET 0", "SCALL 0"}) {
            folds(put + "; POP; NULL; RETURN", put + "@0; POP 0@1; NULL 0@2; RETURN 0@3");
        }
        folds("LOAD 0; DUP; POP; RETURN", "LOAD 0@0; DUP 0@1; POP 0@2; RETURN 0@3");
        folds("LOAD 0; LOAD 0; SWAP; POP; RETURN", "LOAD 0@0; LOAD 0@1; SWAP 0@2; POP 0@3; RETURN 0@4");
        folds("LOAD 0; STORE 1; NULL; RETURN", "LOAD 0@0; STORE 1@1; NULL 0@2; RETURN 0@3");
        folds("LOAD 0; PRINT; NULL; RETURN", "LOAD 0@0; PRINT 0@1; NULL 0@2; RETURN 0@3");
        folds("LOAD 0; PUSH 1; POP; POP; NULL; RETURN", "NULL 0@4; RETURN 0@5");
        folds("NULL; LOAD 0; PUSH 1; POP; POP; RETURN", "NULL 0@0; RETURN 0@5");
    }

    /** "(f) JUMP to p + 1: p is taken out", also if something goes to p + 1. */
    private static void jumps() {
        folds("JUMP 1; NULL; RETURN", "NULL 0@1; RETURN 0@2");
        folds("JUMP 2; NULL; NULL; RETURN", "NULL 0@2; RETURN 0@3");
        folds("LOAD 0; IF0 3; JUMP 3; NULL; RETURN", "LOAD 0@0; IF0 2@1; NULL 0@3; RETURN 0@4");
        folds("LOAD 0; IF0 4; NULL; RETURN; JUMP 5; NULL; RETURN",
                "LOAD 0@0; IF0 4@1; NULL 0@2; RETURN 0@3; NULL 0@5; RETURN 0@6");
        folds("JUMP 0", "JUMP 0@0");
        folds("JUMP 1; JUMP 0", "JUMP 0@1");
        folds("JUMP 1; JUMP 1", "JUMP 0@1");
        folds("JUMP 1; JUMP 2; JUMP 3; JUMP 0", "JUMP 0@3");
        folds("LOAD 0; IF0 3; NOP; JUMP 5; NOP; NULL; RETURN", "LOAD 0@0; IF0 2@1; NULL 0@5; RETURN 0@6");
        folds("LOAD 0; PRINT; JUMP 1; RETURN", "none");
        folds("LOAD 0; PRINT; JUMP 0; RETURN", "LOAD 0@0; PRINT 0@1; JUMP 0@2");
    }

    /** "In (b) to (e) no JUMP, no IF0 and no HANDLER may go to p + 1". */
    private static void waysToTheSecond() {
        folds("PUSH 5; NEG; LOAD 0; IF0 1; RETURN", "PUSH 5@0; NEG 0@1; LOAD 0@2; IF0 1@3; RETURN 0@4");
        folds("PUSH 5; NEG; JUMP 1", "PUSH 5@0; NEG 0@1; JUMP 1@2");
        folds("PUSH 5; NEG; LOAD 0; IF0 2; RETURN", "PUSH -5@0; LOAD 0@2; IF0 1@3; RETURN 0@4");
        folds("PUSH 5; PUSH 4; ADD; LOAD 0; IF0 1; RETURN",
                "PUSH 5@0; PUSH 4@1; ADD 0@2; LOAD 0@3; IF0 1@4; RETURN 0@5");
        folds("PUSH 5; PUSH 4; ADD; JUMP 1", "PUSH 5@0; PUSH 4@1; ADD 0@2; JUMP 1@3");
        folds("PUSH 5; PUSH 4; ADD; LOAD 0; IF0 3; RETURN", "PUSH 9@0; LOAD 0@3; IF0 1@4; RETURN 0@5");
        folds("PUSH 0; IF0 3; NOP; LOAD 0; JUMP 1", "PUSH 0@0; IF0 2@1; LOAD 0@3; JUMP 1@4");
        folds("PUSH 3; IF0 3; NOP; LOAD 0; JUMP 1", "PUSH 3@0; IF0 2@1; LOAD 0@3; JUMP 1@4");
        folds("PUSH 3; IF0 5; LOAD 0; DUP; IF0 1; NULL; RETURN", "none");
        folds("PUSH 5; POP; LOAD 0; JUMP 1", "PUSH 5@0; POP 0@1; LOAD 0@2; JUMP 1@3");
        folds("LOAD 0; POP; LOAD 0; LOAD 0; IF0 1; RETURN",
                "LOAD 0@0; POP 0@1; LOAD 0@2; LOAD 0@3; IF0 1@4; RETURN 0@5");
        folds("NULL; POP; LOAD 0; JUMP 1", "NULL 0@0; POP 0@1; LOAD 0@2; JUMP 1@3");
        folds("NULL; POP; LOAD 0; PRINT; JUMP 2", "LOAD 0@2; PRINT 0@3; JUMP 0@4");
    }

    /** A way to p itself does not hinder. */
    private static void waysToTheFirst() {
        folds("PUSH 5; NEG; PRINT; JUMP 0", "PUSH -5@0; PRINT 0@2; JUMP 0@3");
        folds("PUSH 5; PUSH 4; ADD; PRINT; JUMP 0", "PUSH 9@0; PRINT 0@3; JUMP 0@4");
        folds("PUSH 0; IF0 3; NOP; LOAD 0; PRINT; JUMP 0", "LOAD 0@3; PRINT 0@4; JUMP 0@5");
        folds("PUSH 5; POP; LOAD 0; PRINT; JUMP 0", "LOAD 0@2; PRINT 0@3; JUMP 0@4");
        folds("LOAD 0; IF0 3; NOP; PUSH 5; POP; NULL; RETURN", "LOAD 0@0; IF0 2@1; NULL 0@5; RETURN 0@6");
        folds("LOAD 0; IF0 3; NOP; PUSH 5; NEG; RETURN", "LOAD 0@0; IF0 2@1; PUSH -5@3; RETURN 0@5");
    }

    /** "in (c) none to p + 2". */
    private static void waysToTheThird() {
        folds("PUSH 5; PUSH 4; ADD; LOAD 0; JUMP 2", "PUSH 5@0; PUSH 4@1; ADD 0@2; LOAD 0@3; JUMP 2@4");
        folds("PUSH 5; PUSH 4; ADD; LOAD 0; LOAD 0; IF0 2; ADD; RETURN",
                "PUSH 5@0; PUSH 4@1; ADD 0@2; LOAD 0@3; LOAD 0@4; IF0 2@5; ADD 0@6; RETURN 0@7");
        folds("PUSH 5; PUSH 4; ADD; POP; LOAD 0; PRINT; JUMP 4", "LOAD 0@4; PRINT 0@5; JUMP 0@6");
        folds("PUSH 5; NEG; DUP; PRINT; JUMP 2", "PUSH -5@0; DUP 0@2; PRINT 0@3; JUMP 1@4");
        folds("PUSH 7; POP; LOAD 0; PRINT; JUMP 2", "LOAD 0@2; PRINT 0@3; JUMP 0@4");
    }

    private static void guarded(String text, int from, int to, int handler, String due) {
        Shrinkforge x = Ops.withEntry(text);
        x.guard(0, from, to, handler);
        Check.same(text + " guard " + from + " " + to + " " + handler, folded(x), due);
    }

    /** "no HANDLER may go to p + 1", nor in (c) to p + 2. */
    private static void handlersToThem() {
        guarded("PUSH 5; NEG; RETURN", 0, 1, 1, "PUSH 5@0; NEG 0@1; RETURN 0@2");
        guarded("PUSH 5; NEG; RETURN", 0, 2, 2, "PUSH -5@0; RETURN 0@2");
        guarded("PUSH 5; PUSH 4; ADD; RETURN", 0, 1, 3, "PUSH 9@0; RETURN 0@3");
        guarded("PUSH 5; PUSH 4; ADD; RETURN", 0, 1, 1, "PUSH 5@0; PUSH 4@1; ADD 0@2; RETURN 0@3");
        guarded("PUSH 5; POP; NULL; RETURN", 0, 1, 1, "PUSH 5@0; POP 0@1; NULL 0@2; RETURN 0@3");
        guarded("PUSH 0; IF0 3; NOP; NULL; RETURN", 3, 4, 1, "PUSH 0@0; IF0 2@1; NULL 0@3; RETURN 0@4");
        guarded("PUSH 0; IF0 3; NOP; NULL; RETURN", 3, 4, 4, "NULL 0@3; RETURN 0@4");
        guarded("NULL; PUSH 5; PUSH 4; ADD; RETURN", 0, 1, 1, "NULL 0@0; PUSH 9@1; RETURN 0@4");
        guarded("NULL; PUSH 5; PUSH 4; ADD; RETURN", 0, 1, 3, "none");
        guarded("PUSH 6; JUMP 4; PUSH 5; POP; PUSH 4; ADD; RETURN", 1, 2, 4, "PUSH 10@0; RETURN 0@6");
        guarded("PUSH 6; SGET 0; POP; PUSH 4; ADD; RETURN", 1, 2, 3, "PUSH 6@0; SGET 0@1; POP 0@2; PUSH 4@3; ADD 0@4; RETURN 0@5");
        Shrinkforge x = Ops.withEntry("LOAD 0; RETURN; PUSH 5; PUSH 4; ADD; RETURN");
        x.guard(0, 0, 1, 3);
        Check.same("a HANDLER at a PUSH that is not the second of two", folded(x), "LOAD 0@0; RETURN 0@1; PUSH 4@3; ADD 0@4; RETURN 0@5");
        Shrinkforge y = Ops.withEntry("LOAD 0; IF0 3; RETURN; PUSH 5; NEG; RETURN");
        Check.same("not RIGHT", folded(y), "none");
        Shrinkforge z = Ops.withEntry("LOAD 0; PRINT; PUSH 5; NEG; RETURN; NULL; RETURN");
        z.guard(0, 5, 6, 3);
        Check.same("a GUARD that has no LIVE place goes with its places", folded(z), "LOAD 0@0; PRINT 0@1; PUSH -5@2; RETURN 0@4");
    }

    /** "all INSTRUCTIONS behind it come one place ahead; an a of JUMP and IF0 (...) that is above the place becomes 1 less". */
    private static void placesBehindComeAhead() {
        folds("LOAD 0; NOP; IF0 4; NOP; PUSH 1; RETURN", "LOAD 0@0; IF0 2@2; PUSH 1@4; RETURN 0@5");
        folds("LOAD 0; IF0 4; NOP; NOP; NOP; NOP; PUSH 1; RETURN", "LOAD 0@0; IF0 2@1; PUSH 1@6; RETURN 0@7");
        folds("LOAD 0; IF0 6; NOP; NULL; RETURN; NOP; PUSH 1; RETURN",
                "LOAD 0@0; IF0 4@1; NULL 0@3; RETURN 0@4; PUSH 1@6; RETURN 0@7");
        folds("LOAD 0; PRINT; NOP; LOAD 0; IF0 1; NULL; RETURN", "none");
        folds("LOAD 0; PRINT; NOP; LOAD 0; PRINT; JUMP 2", "LOAD 0@0; PRINT 0@1; LOAD 0@3; PRINT 0@4; JUMP 2@5");
        folds("LOAD 0; PRINT; NOP; LOAD 0; PRINT; JUMP 3", "LOAD 0@0; PRINT 0@1; LOAD 0@3; PRINT 0@4; JUMP 2@5");
        folds("LOAD 0; PRINT; NOP; LOAD 0; PRINT; JUMP 0", "LOAD 0@0; PRINT 0@1; LOAD 0@3; PRINT 0@4; JUMP 0@5");
        folds("LOAD 0; STORE 1; NOP; LOAD 1; PUSH 3; ADD; RETURN",
                "LOAD 0@0; STORE 1@1; LOAD 1@3; PUSH 3@4; ADD 0@5; RETURN 0@6");
        folds("NOP; NOP; PUSH 2; NEW 0; ISA 0; ADD; RETURN", "PUSH 2@2; NEW 0@3; ISA 0@4; ADD 0@5; RETURN 0@6");
        Shrinkforge x = Ops.withEntry("NOP; NOP; PUSH 2; SCALL 0 5; RETURN");
        Check.same("a and b of others stay", Ops.foldedCode(x, 0), "PUSH 2 0@2; SCALL 0 5@3; RETURN 0 0@4");
    }

    /** What a GUARD has is seen by a run: which of three wrong places is caught, and where it goes on. */
    private static String caught(int from, int to, int handler, String text) {
        StringBuilder got = new StringBuilder();
        for (int told = 0; told < 4; told++) {
            Shrinkforge x = Ops.withEntry(text);
            x.guard(0, from, to, handler);
            x.shrink();
            got.append(x.runShrunk(0, told)).append(x.areAlike(0, told) ? " " : " unlike ");
        }
        return got.toString().trim();
    }

    /** "a HANDLER, a from or to that is above the place becomes 1 less". */
    private static void guardsOfWhatIsTakenOut() {
        // 0 to 2 divide by what is told, 5 to 7 by that - 1, 10 to 12 by that - 2; NOPS at 3, 8 and 13
        String text = "PUSH 9; LOAD 0; DIV; NOP; PRINT; PUSH 9; LOAD 0; PUSH 1; SUB; DIV; NOP; PRINT; PUSH 9; LOAD 0; PUSH 2; SUB;"
                + " DIV; NOP; PRINT; PUSH 50; RETURN; NOP; PUSH 70; ADD; RETURN";
        Check.same("from below, to above", caught(0, 19, 21, text), "=68 =68 =68 =50");
        Check.same("the first", caught(0, 3, 21, text), "=68 !2 !2 =50");
        Check.same("to at the NOP", caught(2, 3, 21, text), "=68 !2 !2 =50");
        Check.same("to behind the NOP", caught(2, 4, 21, text), "=68 !2 !2 =50");
        Check.same("from at the NOP", caught(3, 10, 21, text), "!2 =68 !2 =50");
        Check.same("from behind the NOP", caught(4, 10, 21, text), "!2 =68 !2 =50");
        Check.same("to at the next one", caught(3, 9, 21, text), "!2 !2 !2 =50");
        Check.same("from at what is wrong", caught(9, 10, 21, text), "!2 =68 !2 =50");
        Check.same("from behind what is wrong", caught(10, 17, 21, text), "!2 !2 =68 =50");
        Check.same("both", caught(9, 17, 21, text), "!2 =68 =68 =50");
        Check.same("HANDLER behind the NOP", caught(0, 17, 22, text), "=68 =68 =68 =50");
        Check.same("HANDLER at the last place", caught(0, 17, 24, text), "=-2 =-2 =-2 =50");
    }

    /** "A GUARD with from and to alike is out": then nothing goes to its HANDLER. */
    private static void guardsAlikeAreOut() {
        guarded("NOP; LOAD 0; RETURN; RETURN", 0, 1, 3, "LOAD 0@1; RETURN 0@2");
        guarded("NOP; LOAD 0; RETURN; RETURN", 0, 2, 3, "LOAD 0@1; RETURN 0@2; RETURN 0@3");
        guarded("NOP; NOP; LOAD 0; RETURN; RETURN", 0, 2, 4, "LOAD 0@2; RETURN 0@3");
        guarded("PUSH 1; POP; LOAD 0; RETURN; RETURN", 0, 2, 4, "LOAD 0@2; RETURN 0@3");
        guarded("PUSH 1; POP; LOAD 0; RETURN; RETURN", 1, 2, 4, "LOAD 0@2; RETURN 0@3");
        guarded("PUSH 1; POP; LOAD 0; RETURN; RETURN", 1, 3, 4, "LOAD 0@2; RETURN 0@3; RETURN 0@4");
        guarded("PUSH 5; NEG; RETURN; RETURN", 1, 2, 3, "PUSH -5@0; RETURN 0@2");
        guarded("PUSH 5; NEG; RETURN; RETURN", 0, 1, 3, "PUSH -5@0; RETURN 0@2; RETURN 0@3");
        Shrinkforge x = Ops.withEntry("NOP; LOAD 0; RETURN; RETURN; POP; NULL; RETURN");
        x.guard(0, 0, 1, 3);
        x.guard(0, 1, 2, 4);
        Check.same("the second is the only one then", folded(x), "LOAD 0@1; RETURN 0@2; POP 0@4; NULL 0@5; RETURN 0@6");
        Shrinkforge y = Ops.withEntry("LOAD 0; NOP; RETURN; RETURN; POP; NULL; RETURN");
        y.guard(0, 0, 1, 3);
        y.guard(0, 1, 2, 4);
        Check.same("the first is the only one then", folded(y), "LOAD 0@0; RETURN 0@2; RETURN 0@3");
        Shrinkforge z = Ops.withEntry("NOP; LOAD 0; RETURN; POP; NULL; RETURN");
        z.guard(0, 0, 1, 3);
        z.guard(0, 0, 1, 3);
        Check.same("both are out", folded(z), "LOAD 0@1; RETURN 0@2");
        Shrinkforge v = Ops.withEntry("LOAD 0; JUMP 3; NOP; PUSH 3; NEG; RETURN");
        v.guard(0, 2, 3, 4);
        Check.same("one of dead places does not hinder", folded(v), "LOAD 0@0; PUSH -3@3; RETURN 0@5");
    }

    /** "all places that are not LIVE are taken out": ahead of each folding, so what only they go to does not hinder. */
    private static void deadOnesFirst() {
        folds("PUSH 5; NEG; RETURN; JUMP 1", "PUSH -5@0; RETURN 0@2");
        folds("PUSH 5; PUSH 6; ADD; RETURN; JUMP 2", "PUSH 11@0; RETURN 0@3");
        folds("JUMP 2; NOP; PUSH 5; NEG; RETURN; IF0 3", "PUSH -5@2; RETURN 0@4");
        folds("PUSH 5; JUMP 3; NOP; NEG; RETURN", "PUSH -5@0; RETURN 0@4");
        folds("PUSH 5; JUMP 4; NEG; JUMP 2; NEG; RETURN", "PUSH -5@0; RETURN 0@5");
        folds("PUSH 1; IF0 6; PUSH 5; NEG; RETURN; NOP; JUMP 6", "PUSH -5@2; RETURN 0@4");
        folds("NULL; RETURN; POP; POP; JUMP 2", "NULL 0@0; RETURN 0@1");
    }

    /** "again and again (...) the first place p". */
    private static void againAndAgain() {
        folds("PUSH 1; PUSH 2; PUSH 3; ADD; ADD; RETURN", "PUSH 6@0; RETURN 0@5");
        folds("PUSH 1; PUSH 2; ADD; PUSH 3; ADD; PUSH 4; ADD; RETURN", "PUSH 10@0; RETURN 0@7");
        folds("PUSH 9; PUSH 2; PUSH 2; SUB; DIV; RETURN", "PUSH 9@0; PUSH 0@1; DIV 0@4; RETURN 0@5");
        folds("PUSH 1; PUSH 1; SUB; IF0 6; PUSH 7; RETURN; PUSH 8; RETURN", "PUSH 8@6; RETURN 0@7");
        folds("PUSH 0; IF0 5; PUSH 5; NEG; RETURN; PUSH 6; NEG; RETURN", "PUSH -6@5; RETURN 0@7");
        folds("PUSH 1; PUSH 2; LESS; NEG; NEG; IF0 8; PUSH 3; RETURN; PUSH 4; RETURN", "PUSH 3@6; RETURN 0@7");
        folds("PUSH 3; PUSH 4; PUSH 5; POP; POP; NEG; RETURN", "PUSH -3@0; RETURN 0@6");
    }

    /** "ORIGIN of a place of it is the place as it was typed (what is changed keeps its place p)". */
    private static void origins() {
        Shrinkforge x = Ops.withEntry("NOP; PUSH 1; PUSH 2; ADD; PRINT; NOP; PUSH 4; NEG; RETURN; NOP");
        int[] due = {1, 4, 6, 8};
        Check.same("places", x.folded(0), 4);
        for (int place = 0; place < 4; place++) {
            Check.same("ORIGIN " + place, x.ofFolded(0, place, 3), due[place]);
        }
        x.cut(0, 10);
        Ops.type(x, 0, "NULL; RETURN");
        Check.same("typed anew", folded(x), "NULL 0@0; RETURN 0@1");
        x.change(0, 0, Ops.LOAD, 0, 0);
        Check.same("changed", folded(x), "LOAD 0@0; RETURN 0@1");
    }

    /** 30 places, and all of them but two taken out. */
    private static void thirtyPlaces() {
        folds("NOP; ".repeat(28) + "NULL; RETURN", "NULL 0@28; RETURN 0@29");
        folds("NULL; RETURN; " + "NOP; ".repeat(28), "NULL 0@0; RETURN 0@1");
        folds("PUSH 1; " + "NEG; ".repeat(28) + "RETURN", "PUSH 1@0; RETURN 0@29");
        folds("PUSH 1; " + "NEG; ".repeat(27) + "RETURN", "PUSH -1@0; RETURN 0@28");
        folds("PUSH 1; " + "PUSH 2; ADD; ".repeat(14) + "RETURN", "PUSH 29@0; RETURN 0@29");
        folds("PUSH 1; POP; ".repeat(14) + "NULL; RETURN", "NULL 0@28; RETURN 0@29");
        StringBuilder jumps = new StringBuilder();
        for (int place = 0; place < 28; place++) {
            jumps.append("JUMP ").append(place + 1).append("; ");
        }
        folds(jumps + "NULL; RETURN", "NULL 0@28; RETURN 0@29");
        Check.same("none can be taken out", Ops.withEntry("LOAD 0; PRINT; ".repeat(14) + "LOAD 0; RETURN").folded(0), 30);
    }

    /** folded: "NONE, if it is not RIGHT". */
    private static void notRightOrAbstract() {
        folds("NOP; POP", "none");
        Shrinkforge x = Ops.program("class", "method 0 0 0", "method 0 1 0: NOP; NULL; RETURN; POP");
        Check.same("ABSTRACT", x.folded(0), 0);
        Check.same("RIGHT, though another one is not", x.folded(1), 2);
        x.method(0, 2, 0, false, 0);
        x.code(2, Ops.POP, 0, 0);
        Check.same("not RIGHT", x.folded(2), -1);
        Check.same("another one is", x.folded(1), 2);
        x.guard(0, 0, 1, 0);
        Check.same("ABSTRACT, not RIGHT", x.folded(0), -1);
    }

    private static void typedCodeStays() {
        Shrinkforge x = Ops.withEntry("PUSH 1; NEG; RETURN; JUMP 1");
        long before = x.digest();
        Check.same("folded", folded(x), "PUSH -1@0; RETURN 0@2");
        x.shrink();
        Check.same("as it was typed", x.instruction(0, 0, 1) * 100 + x.instruction(0, 1, 0), 113);
        Check.same("how many", x.ofMethod(0, 5), 4);
        x.wipe();
        Check.same("another program", before == x.digest(), false);
    }
}
