/** Promises 24 and 25: FOLDED code and ORIGIN. */
final class FoldingTest {
    public static void main(String[] args) {
        rules();
        whatHinders();
        guards();
        asked();
        Check.finish("FoldingTest");
    }

    private static void folds(String text, String due) {
        Check.same("folded: " + text, Ops.foldedCode(Ops.withEntry(text), 0), due);
    }

    private static void rules() {
        folds("NOP; PUSH 1; NOP; RETURN", "PUSH 1 0@1; RETURN 0 0@3");
        folds("PUSH 1; NEG; RETURN", "PUSH -1 0@0; RETURN 0 0@2");
        folds("PUSH -2147483648; NEG; RETURN", "PUSH -2147483648 0@0; RETURN 0 0@2");
        folds("PUSH 2; PUSH 3; ADD; RETURN", "PUSH 5 0@0; RETURN 0 0@3");
        folds("PUSH 2; PUSH 3; SUB; RETURN", "PUSH -1 0@0; RETURN 0 0@3");
        folds("PUSH 2; PUSH 3; MUL; RETURN", "PUSH 6 0@0; RETURN 0 0@3");
        folds("PUSH -7; PUSH 2; DIV; RETURN", "PUSH -3 0@0; RETURN 0 0@3");
        folds("PUSH -7; PUSH 2; REM; RETURN", "PUSH -1 0@0; RETURN 0 0@3");
        folds("PUSH -2147483648; PUSH -1; DIV; RETURN", "PUSH -2147483648 0@0; RETURN 0 0@3");
        folds("PUSH -2147483648; PUSH -1; REM; RETURN", "PUSH 0 0@0; RETURN 0 0@3");
        folds("PUSH 2147483647; PUSH 1; ADD; RETURN", "PUSH -2147483648 0@0; RETURN 0 0@3");
        folds("PUSH 1; PUSH 0; DIV; RETURN", "PUSH 1 0@0; PUSH 0 0@1; DIV 0 0@2; RETURN 0 0@3");
        folds("PUSH 1; PUSH 0; REM; RETURN", "PUSH 1 0@0; PUSH 0 0@1; REM 0 0@2; RETURN 0 0@3");
        folds("PUSH 2; PUSH 3; LESS; RETURN", "PUSH 1 0@0; RETURN 0 0@3");
        folds("PUSH 3; PUSH 3; LESS; RETURN", "PUSH 0 0@0; RETURN 0 0@3");
        folds("PUSH 3; PUSH 3; SAME; RETURN", "PUSH 1 0@0; RETURN 0 0@3");
        folds("PUSH 3; PUSH 3; SWAP; SUB; RETURN",
                "PUSH 3 0@0; PUSH 3 0@1; SWAP 0 0@2; SUB 0 0@3; RETURN 0 0@4");
        folds("PUSH 0; IF0 4; PUSH 1; RETURN; PUSH 2; RETURN", "PUSH 2 0@4; RETURN 0 0@5");
        folds("PUSH 7; IF0 4; PUSH 1; RETURN; PUSH 2; RETURN", "PUSH 1 0@2; RETURN 0 0@3");
        folds("PUSH 0; IF0 0; PUSH 1; RETURN", "JUMP 0 0@0");
        folds("PUSH 1; POP; LOAD 0; POP; NULL; POP; PUSH 9; RETURN", "PUSH 9 0@6; RETURN 0 0@7");
        folds("NEW 0; POP; LOAD 0; RETURN", "NEW 0 0@0; POP 0 0@1; LOAD 0 0@2; RETURN 0 0@3");
        folds("PUSH 1; DUP; POP; RETURN", "PUSH 1 0@0; DUP 0 0@1; POP 0 0@2; RETURN 0 0@3");
        folds("JUMP 1; JUMP 2; PUSH 1; RETURN", "PUSH 1 0@2; RETURN 0 0@3");
        folds("JUMP 2; NOP; PUSH 1; RETURN", "PUSH 1 0@2; RETURN 0 0@3");
        folds("JUMP 0", "JUMP 0 0@0");
        folds("NOP; JUMP 0", "JUMP 0 0@1");
        folds("PUSH 1; PUSH 2; PUSH 3; MUL; NEG; ADD; RETURN", "PUSH -5 0@0; RETURN 0 0@6");
        folds("PUSH 1; RETURN; JUMP 0; NOP", "PUSH 1 0@0; RETURN 0 0@1");
        folds("LOAD 0; IF0 4; NOP; JUMP 0; NOP; PUSH 3; RETURN",
                "LOAD 0 0@0; IF0 3 0@1; JUMP 0 0@3; PUSH 3 0@5; RETURN 0 0@6");
    }

    private static void whatHinders() {
        // A way to the second of two keeps them.
        folds("PUSH 1; LOAD 0; IF0 5; PUSH 2; JUMP 5; NEG; RETURN",
                "none");
        folds("LOAD 0; LOAD 0; IF0 4; PUSH 5; NEG; RETURN", "none");
        folds("LOAD 0; JUMP 3; NOP; NEG; LOAD 0; IF0 3; RETURN",
                "LOAD 0 0@0; NEG 0 0@3; LOAD 0 0@4; IF0 1 0@5; RETURN 0 0@6");
        folds("PUSH 5; NEG; LOAD 0; IF0 1; RETURN",
                "PUSH 5 0@0; NEG 0 0@1; LOAD 0 0@2; IF0 1 0@3; RETURN 0 0@4");
        folds("PUSH 5; POP; LOAD 0; IF0 0; PUSH 1; RETURN",
                "LOAD 0 0@2; IF0 0 0@3; PUSH 1 0@4; RETURN 0 0@5");
        folds("PUSH 5; POP; PUSH 4; LOAD 0; IF0 1; RETURN",
                "PUSH 5 0@0; POP 0 0@1; PUSH 4 0@2; LOAD 0 0@3; IF0 1 0@4; RETURN 0 0@5");
        folds("PUSH 5; PUSH 4; ADD; LOAD 0; IF0 1; RETURN",
                "PUSH 5 0@0; PUSH 4 0@1; ADD 0 0@2; LOAD 0 0@3; IF0 1 0@4; RETURN 0 0@5");
        folds("PUSH 5; PUSH 4; ADD; PUSH 3; LOAD 0; IF0 2; ADD; RETURN",
                "PUSH 5 0@0; PUSH 4 0@1; ADD 0 0@2; PUSH 3 0@3; LOAD 0 0@4; IF0 2 0@5; ADD 0 0@6; RETURN 0 0@7");
        folds("PUSH 0; IF0 6; PUSH 0; LOAD 0; IF0 1; RETURN; PUSH 3; RETURN",
                "PUSH 0 0@0; IF0 6 0@1; PUSH 0 0@2; LOAD 0 0@3; IF0 1 0@4; RETURN 0 0@5; PUSH 3 0@6; RETURN 0 0@7");
    }

    private static void guards() {
        Shrinkforge x = Ops.withEntry("NOP; LOAD 0; PUSH 3; POP; RETURN; NOP; PRINT; PUSH 1; RETURN");
        x.guard(0, 1, 3, 5);
        x.guard(0, 2, 4, 6);
        // the first has LOAD 0 alone then, the second is out with what it had
        Check.same("guards", Ops.foldedCode(x, 0),
                "LOAD 0 0@1; RETURN 0 0@4; PRINT 0 0@6; PUSH 1 0@7; RETURN 0 0@8");
        Shrinkforge y = Ops.withEntry("PUSH 1; POP; PUSH 2; RETURN; THROW");
        y.guard(0, 0, 2, 4);
        Check.same("a guard without places", Ops.foldedCode(y, 0), "PUSH 2 0@2; RETURN 0 0@3");
        Shrinkforge z = Ops.withEntry("PUSH 1; NEG; RETURN");
        z.guard(0, 0, 1, 1);
        Check.same("a handler hinders", Ops.foldedCode(z, 0), "PUSH 1 0@0; NEG 0 0@1; RETURN 0 0@2");
        Shrinkforge v = Ops.withEntry("PUSH 1; PUSH 2; POP; RETURN");
        v.guard(0, 2, 3, 2);
        Check.same("a handler of other height", v.folded(0), -1);
    }

    private static void asked() {
        Shrinkforge x = Ops.withEntry("NOP; LOAD 1; SCALL 0 5; RETURN");
        x.method(0, 1, 1, true, 0);
        x.method(0, 2, 1, true, 0);
        Ops.type(x, 2, "POP");
        Check.same("folded", x.folded(0), 3);
        Check.same("folded abstract", x.folded(1), 0);
        Check.same("not right", x.folded(2), -1);
        Check.same("b", x.ofFolded(0, 1, 2), 5);
        Check.same("origin", x.ofFolded(0, 1, 3), 2);
        Check.index("no method", () -> x.folded(3));
        Check.index("below", () -> x.folded(-1));
        Check.index("no method", () -> x.ofFolded(3, 0, 9));
        Check.index("not right", () -> x.ofFolded(2, 0, 9));
        Check.index("abstract", () -> x.ofFolded(1, 0, 9));
        Check.index("no place", () -> x.ofFolded(0, 3, 9));
        Check.index("place -1", () -> x.ofFolded(0, -1, 0));
        Check.argument("what 4", () -> x.ofFolded(0, 0, 4));
        Check.argument("what -1", () -> x.ofFolded(0, 0, -1));
        Check.same("typed code stays", x.ofMethod(0, 5), 4);
        x.change(0, 0, Ops.PUSH, 1, 0);
        Check.same("as it is now", x.folded(0), 4);
    }
}
