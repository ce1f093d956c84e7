/** The boundaries of promises 14 to 25, 28 to 35, 39 to 45: what may be asked, and what is told at the edges. */
final class AskingBoundaryTest {
    private static final int LEAST = Integer.MIN_VALUE;
    private static final int GREATEST = Integer.MAX_VALUE;
    private static final int[] NO_CLASS = {-1, 4, 8, 31, 32, 36, LEAST, GREATEST};
    private static final int[] NO_FIELD = {-1, 4, 16, 31, 32, 36, LEAST, GREATEST};
    private static final int[] NO_METHOD = {-1, 5, 24, 31, 32, 37, LEAST, GREATEST};

    public static void main(String[] args) {
        ofClass();
        ofField();
        ofMethod();
        instruction();
        findMethod();
        findField();
        isRightAndIsLive();
        foldedAndOfFolded();
        ofTheShrunk();
        ofTheShrunkNumbers();
        called();
        ofTheLastRun();
        house();
        Check.finish("AskingBoundaryTest");
    }

    private static Shrinkforge sample3() {
        Shrinkforge x = new Shrinkforge();
        x.sample(3);
        return x;
    }

    /** "if there is no such CLASS"; "if what is not 0 to 5". */
    private static void ofClass() {
        Shrinkforge x = sample3();
        for (int none : NO_CLASS) {
            Check.refuses(x, "no class " + none, Check.INDEX, () -> x.ofClass(none, 0));
            Check.refuses(x, "no class goes ahead " + none, Check.INDEX, () -> x.ofClass(none, 6));
        }
        for (int what : new int[] {-1, 6, LEAST, GREATEST}) {
            Check.refuses(x, "what " + what, Check.ARGUMENT, () -> x.ofClass(0, what));
        }
        Check.same("the last class, its SUPER", x.ofClass(3, 0), 0);
        Check.same("the last what", x.ofClass(3, 5), 0);
        Check.same("INTERFACES", x.ofClass(3, 3), 4);
        Check.same("three fields", x.ofClass(0, 5), 3);
        Check.same("two methods", x.ofClass(3, 4), 2);
        Check.same("NONE", x.ofClass(0, 0), -1);
    }

    /** "if there is no such FIELD"; "if what is not 0 to 2". */
    private static void ofField() {
        Shrinkforge x = sample3();
        for (int none : NO_FIELD) {
            Check.refuses(x, "no field " + none, Check.INDEX, () -> x.ofField(none, 0));
            Check.refuses(x, "no field goes ahead " + none, Check.INDEX, () -> x.ofField(none, 3));
        }
        for (int what : new int[] {-1, 3, LEAST, GREATEST}) {
            Check.refuses(x, "what " + what, Check.ARGUMENT, () -> x.ofField(0, what));
        }
        Check.same("the last what", x.ofField(3, 2), 1);
        Check.same("not STATIC", x.ofField(2, 2), 0);
        Check.same("class", x.ofField(2, 0), 1);
        Check.same("NAME", x.ofField(3, 1), 2);
    }

    /** "if there is no such METHOD"; "if what is not 0 to 7". */
    private static void ofMethod() {
        Shrinkforge x = sample3();
        for (int none : NO_METHOD) {
            Check.refuses(x, "no method " + none, Check.INDEX, () -> x.ofMethod(none, 0));
            Check.refuses(x, "no method goes ahead " + none, Check.INDEX, () -> x.ofMethod(none, 8));
        }
        for (int what : new int[] {-1, 8, LEAST, GREATEST}) {
            Check.refuses(x, "what " + what, Check.ARGUMENT, () -> x.ofMethod(0, what));
        }
        Check.same("the last what", x.ofMethod(0, 7), 1);
        Check.same("no ENTRY", x.ofMethod(4, 7), 0);
        Check.same("the last method", x.ofMethod(4, 0) * 100 + x.ofMethod(4, 1) * 10 + x.ofMethod(4, 2), 311);
    }

    /** "if there is no such METHOD, or no such place in it"; "if what is not 0 to 2". */
    private static void instruction() {
        Shrinkforge x = sample3();
        for (int none : NO_METHOD) {
            Check.refuses(x, "no method " + none, Check.INDEX, () -> x.instruction(none, 0, 0));
        }
        for (int none : new int[] {-1, 19, 30, 32, LEAST, GREATEST}) {
            Check.refuses(x, "no place " + none, Check.INDEX, () -> x.instruction(0, none, 0));
            Check.refuses(x, "no place goes ahead " + none, Check.INDEX, () -> x.instruction(0, none, 3));
        }
        for (int what : new int[] {-1, 3, LEAST, GREATEST}) {
            Check.refuses(x, "what " + what, Check.ARGUMENT, () -> x.instruction(0, 0, what));
        }
        Check.refuses(x, "ABSTRACT: no place", Check.INDEX, () -> x.instruction(1, 0, 0));
        Check.same("the first place", x.instruction(0, 0, 0), Ops.LOAD);
        Check.same("the last place", x.instruction(0, 18, 0), Ops.RETURN);
        Check.same("the last what", x.instruction(0, 16, 2), 6);
    }

    /** "if signature is not 0 to 63"; "NONE without one". */
    private static void findMethod() {
        Shrinkforge x = sample3();
        x.method(0, 15, 3, false, 0);
        for (int none : NO_CLASS) {
            Check.refuses(x, "no class " + none, Check.INDEX, () -> x.findMethod(none, 0));
            Check.refuses(x, "no class goes ahead " + none, Check.INDEX, () -> x.findMethod(none, 64));
        }
        for (int signature : new int[] {-1, 64, LEAST, GREATEST}) {
            Check.refuses(x, "signature " + signature, Check.ARGUMENT, () -> x.findMethod(0, signature));
        }
        Check.same("signature 0", x.findMethod(3, 0), -1);
        Check.same("signature 63", x.findMethod(3, 63), 5);
        Check.same("of C3 itself", x.findMethod(3, 6), 2);
        Check.same("not of its INTERFACE", x.findMethod(3, 13), -1);
        Check.same("of the INTERFACE", x.findMethod(2, 13), 3);
        Check.same("not of a class below", x.findMethod(0, 6), -1);
    }

    /** "if name is not 0 to 9"; "NONE without one". */
    private static void findField() {
        Shrinkforge x = sample3();
        x.field(0, 9, true);
        for (int none : NO_CLASS) {
            Check.refuses(x, "no class " + none, Check.INDEX, () -> x.findField(none, 0));
            Check.refuses(x, "no class goes ahead " + none, Check.INDEX, () -> x.findField(none, 10));
        }
        for (int name : new int[] {-1, 10, LEAST, GREATEST}) {
            Check.refuses(x, "name " + name, Check.ARGUMENT, () -> x.findField(0, name));
        }
        Check.same("name 0", x.findField(1, 0), 2);
        Check.same("name 0 of C3", x.findField(3, 0), 0);
        Check.same("name 9", x.findField(1, 9), 4);
        Check.same("of an INTERFACE", x.findField(2, 0), -1);
        Check.same("name 8", x.findField(0, 8), -1);
    }

    private static void isRightAndIsLive() {
        Shrinkforge x = sample3();
        for (int none : NO_METHOD) {
            Check.refuses(x, "no method " + none, Check.INDEX, () -> x.isRight(none));
            Check.refuses(x, "no live method " + none, Check.INDEX, () -> x.isLive(none, 0));
            Check.refuses(x, "no folded method " + none, Check.INDEX, () -> x.folded(none));
        }
        for (int none : new int[] {-1, 19, 30, 32, LEAST, GREATEST}) {
            Check.refuses(x, "no live place " + none, Check.INDEX, () -> x.isLive(0, none));
        }
        Check.refuses(x, "an ABSTRACT one has no place", Check.INDEX, () -> x.isLive(1, 0));
        Check.same("the last method", x.isRight(4), true);
        Check.same("the last place", x.isLive(0, 18), true);
        Check.same("an ABSTRACT one folded", x.folded(1), 0);
    }

    /** ofFolded: "no such METHOD, or it is not RIGHT, or there is no such place"; "what is not 0 to 3". */
    private static void foldedAndOfFolded() {
        Shrinkforge x = Ops.program("class", "method 0 0 0: NOP; NULL; RETURN", "method 0 1 0: POP", "method 0 2 0");
        for (int none : new int[] {-1, 3, 24, 31, 32, LEAST, GREATEST}) {
            Check.refuses(x, "no method " + none, Check.INDEX, () -> x.ofFolded(none, 0, 0));
            Check.refuses(x, "no method goes ahead " + none, Check.INDEX, () -> x.ofFolded(none, 0, 4));
        }
        for (int none : new int[] {-1, 2, 30, 32, LEAST, GREATEST}) {
            Check.refuses(x, "no place of FOLDED code " + none, Check.INDEX, () -> x.ofFolded(0, none, 0));
            Check.refuses(x, "no place goes ahead " + none, Check.INDEX, () -> x.ofFolded(0, none, 4));
        }
        for (int what : new int[] {-1, 4, LEAST, GREATEST}) {
            Check.refuses(x, "what " + what, Check.ARGUMENT, () -> x.ofFolded(0, 0, what));
        }
        Check.refuses(x, "not RIGHT", Check.INDEX, () -> x.ofFolded(1, 0, 0));
        Check.refuses(x, "not RIGHT goes ahead", Check.INDEX, () -> x.ofFolded(1, 0, 4));
        Check.refuses(x, "ABSTRACT", Check.INDEX, () -> x.ofFolded(2, 0, 0));
        Check.same("folded", x.folded(0), 2);
        Check.same("folded, not RIGHT", x.folded(1), -1);
        Check.same("folded, ABSTRACT", x.folded(2), 0);
        Check.same("the last place, its ORIGIN", x.ofFolded(0, 1, 3), 2);
        Check.same("the first place, its ORIGIN", x.ofFolded(0, 0, 3), 1);
        Check.same("as it was typed it stays", x.instruction(0, 0, 0), Ops.NOP);
    }

    /** "IllegalStateException if nothing was SHRUNK since the program was wiped": it goes ahead. */
    private static void ofTheShrunk() {
        Shrinkforge x = sample3();
        nothingShrunk(x, "at first");
        x.shrink();
        Check.same("SHRUNK", x.house(4), 1);
        Check.same("again", x.again(), true);
        x.wipe();
        nothingShrunk(x, "wiped");
        x.sample(3);
        nothingShrunk(x, "sampled after it was wiped");
        x.entry(0, false);
        Check.same("refused", x.shrink(), -9);
        nothingShrunk(x, "refused");
        x.entry(0, true);
        x.shrink();
        Check.same("SHRUNK since it was wiped", x.lines(0), 19);
    }

    private static void nothingShrunk(Shrinkforge x, String when) {
        Check.refuses(x, "again " + when, Check.STATE, x::again);
        Check.refuses(x, "isKept " + when, Check.STATE, () -> x.isKept(0, 0));
        Check.refuses(x, "isKept goes ahead " + when, Check.STATE, () -> x.isKept(3, 0));
        Check.refuses(x, "newName " + when, Check.STATE, () -> x.newName(0, 0));
        Check.refuses(x, "newName goes ahead " + when, Check.STATE, () -> x.newName(-1, 0));
        Check.refuses(x, "lines " + when, Check.STATE, () -> x.lines(0));
        Check.refuses(x, "line " + when, Check.STATE, () -> x.line(0, 0));
        Check.refuses(x, "origin " + when, Check.STATE, () -> x.origin(0, 0));
        Check.refuses(x, "map " + when, Check.STATE, x::map);
        Check.refuses(x, "called " + when, Check.STATE, () -> x.called(0, 0, 0));
        Check.refuses(x, "called goes ahead " + when, Check.STATE, () -> x.called(0, 26, 0));
        Check.refuses(x, "ofShrunk " + when, Check.STATE, () -> x.ofShrunk(0));
        Check.refuses(x, "ofShrunk goes ahead " + when, Check.STATE, () -> x.ofShrunk(6));
        Check.refuses(x, "runShrunk " + when, Check.STATE, () -> x.runShrunk(0, 3));
        Check.refuses(x, "runShrunk goes ahead " + when, Check.STATE, () -> x.runShrunk(1, 3));
        Check.refuses(x, "areAlike " + when, Check.STATE, () -> x.areAlike(0, 3));
        Check.refuses(x, "areAlike goes ahead " + when, Check.STATE, () -> x.areAlike(-1, 3));
    }

    /** "not, if there was none such"; an empty text if it is not KEPT; NONE, if it is not KEPT; "NONE without one". */
    private static void ofTheShrunkNumbers() {
        Shrinkforge x = sample3();
        x.shrink();
        for (int what : new int[] {-1, 3, LEAST, GREATEST}) {
            Check.refuses(x, "isKept " + what, Check.ARGUMENT, () -> x.isKept(what, 0));
            Check.refuses(x, "newName " + what, Check.ARGUMENT, () -> x.newName(what, 0));
        }
        for (int what : new int[] {-1, 6, LEAST, GREATEST}) {
            Check.refuses(x, "ofShrunk " + what, Check.ARGUMENT, () -> x.ofShrunk(what));
        }
        int[] counts = {4, 2, 1, 23, 2, 2};
        for (int what = 0; what < 6; what++) {
            Check.same("ofShrunk " + what, x.ofShrunk(what), counts[what]);
        }
        for (int number : NO_METHOD) {
            for (int what = 0; what < 3; what++) {
                Check.same("no such one is KEPT " + what + " " + number, x.isKept(what, number), false);
                Check.same("no such one has a name " + what + " " + number, x.newName(what, number), "");
            }
            Check.same("lines of none " + number, x.lines(number), -1);
            Check.same("line of none " + number, x.line(number, 0), "");
            Check.same("origin of none " + number, x.origin(number, 0), -1);
        }
        Check.same("the last class", x.isKept(0, 3) + x.newName(0, 3), "trueC3");
        Check.same("the last method is not", x.isKept(1, 4) + x.newName(1, 4), "false");
        Check.same("lines of one that is not KEPT", x.lines(4), -1);
        Check.same("line of one that is not KEPT", x.line(4, 0), "");
        Check.same("origin of one that is not KEPT", x.origin(4, 0), -1);
        Check.same("a field that is not KEPT", x.isKept(2, 1) + x.newName(2, 1), "false");
        Check.same("a field that is", x.isKept(2, 0) + x.newName(2, 0), "truea");
        for (int none : new int[] {-1, 4, 30, 32, LEAST, GREATEST}) {
            Check.same("line " + none, x.line(2, none), "");
            Check.same("origin " + none, x.origin(2, none), -1);
        }
        Check.same("lines", x.lines(2), 4);
        Check.same("the first line", x.line(2, 0) + x.origin(2, 0), "LOAD 10");
        Check.same("the last line", x.line(2, 3) + x.origin(2, 3), "RETURN3");
    }

    /** "letter is not 0 to 25, or arity not 0 to 3"; "NONE without one, or if the class is not KEPT". */
    private static void called() {
        Shrinkforge x = Ops.program("class", "class 0", "class 0",
                "method 0 0 0 static entry: NEW 1; CALL 0 4; NEW 1; PUSH 1; PUSH 2; PUSH 3; CALL 0 11; ADD; RETURN",
                "method 0 1 0: PUSH 1; RETURN", "method 1 2 3: PUSH 2; RETURN", "method 2 1 0: PUSH 3; RETURN");
        x.shrink();
        for (int out : new int[] {-1, 26, LEAST, GREATEST}) {
            Check.refuses(x, "letter " + out, Check.ARGUMENT, () -> x.called(0, out, 0));
            Check.refuses(x, "letter of no class " + out, Check.ARGUMENT, () -> x.called(-1, out, 0));
        }
        for (int out : new int[] {-1, 4, LEAST, GREATEST}) {
            Check.refuses(x, "arity " + out, Check.ARGUMENT, () -> x.called(0, 0, out));
        }
        for (int none : new int[] {-1, 2, 3, 8, 31, 32, LEAST, GREATEST}) {
            Check.same("a class that is not KEPT " + none, x.called(none, 0, 0), -1);
        }
        Check.same("in itself", x.called(0, 0, 0), 1);
        Check.same("UPWARD", x.called(1, 0, 0), 1);
        Check.same("not from below", x.called(0, 0, 3), -1);
        Check.same("ARITY 3", x.called(1, 0, 3), 2);
        Check.same("letter 25", x.called(1, 25, 3), -1);
        Check.same("letter 1", x.called(1, 1, 0), -1);
        Check.same("ARITY 1", x.called(1, 0, 1), -1);
        Shrinkforge y = Ops.program("class", "method 0 0 0 static entry: PUSH 1; RETURN");
        y.shrink();
        Check.same("an ENTRY has no letter", y.called(0, 0, 0), -1);
        Shrinkforge z = Ops.program("class", "class 0", "class 1", "class 2", "class 3", "class 4", "class 5", "class 6",
                "method 0 0 0 static entry: NULL; DCALL 7 4; RETURN", "method 0 1 0: NULL; RETURN");
        z.shrink();
        for (int c = 0; c < 8; c++) {
            Check.same("so far UPWARD: " + c, z.called(c, 0, 0), 1);
        }
        Shrinkforge v = Ops.program("class", "class 0", "class 1", "method 0 0 0 static entry: NULL; DCALL 0 4; NULL; DCALL 1 4; RETURN",
                "method 0 1 0: NULL; RETURN", "method 1 1 0: NULL; RETURN", "method 2 1 0: NULL; RETURN");
        v.shrink();
        Check.same("found first", v.called(1, 0, 0), 2);
        Check.same("found first from above", v.called(0, 0, 0), 1);
        Check.same("a class that is not KEPT, below", v.called(2, 0, 0), -1);
    }

    /** OUT, TRACE, RAW, RESULT: empty without a run; ofRun and begun: 0 without a run; "what is not 0 to 3". */
    private static void ofTheLastRun() {
        Shrinkforge x = sample3();
        Check.same("without a run", x.out() + x.trace() + x.raw() + x.result(), "");
        for (int what : new int[] {-1, 4, LEAST, GREATEST}) {
            Check.refuses(x, "ofRun " + what, Check.ARGUMENT, () -> x.ofRun(what));
        }
        for (int what = 0; what <= 3; what++) {
            Check.same("ofRun without a run " + what, x.ofRun(what), 0);
        }
        for (int m = -1; m <= 24; m++) {
            Check.same("begun without a run " + m, x.begun(m), 0);
        }
        x.run(0, 3);
        int[] due = {1, 0, 2, 0};
        for (int what = 0; what <= 3; what++) {
            Check.same("ofRun " + what, x.ofRun(what), due[what]);
        }
        for (int none : new int[] {-1, 5, 23, 24, 31, 32, LEAST, GREATEST}) {
            Check.same("begun " + none, x.begun(none), 0);
        }
        Check.same("begun", x.begun(0) * 10 + x.begun(2), 11);
    }

    /** "if what is not 0 to 7". */
    private static void house() {
        Shrinkforge x = sample3();
        for (int what : new int[] {-1, 8, LEAST, GREATEST}) {
            Check.refuses(x, "house " + what, Check.ARGUMENT, () -> x.house(what));
        }
        Check.same("house 0", x.house(0), 4);
        Check.same("house 7", x.house(7), 0);
        Check.same("knock", x.knock(), 1);
        Check.same("house 7 then", x.house(7), 1);
    }
}
