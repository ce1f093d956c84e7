/** The boundaries of section 1 and of promises 1 to 13, each just inside and just outside. */
final class TypingBoundaryTest {
    private static final int LEAST = Integer.MIN_VALUE;
    private static final int GREATEST = Integer.MAX_VALUE;

    public static void main(String[] args) {
        atMost8Classes();
        superOfAClass();
        atMost2Interfaces();
        whoImplementsWhat();
        isA();
        upward();
        namedOrNot();
        atMost16Fields();
        namesOfFields();
        atMost24Methods();
        numbersOfMethods();
        signatures();
        atMost30Instructions();
        numbersOfInstructions();
        whatIsNotNeeded();
        changedPlaces();
        cuts();
        abstractOnes();
        atMost2Guards();
        placesOfGuards();
        entries();
        atMost8Variables();
        variablesInOrder();
        localsAreZeroAtFirst();
        newObject();
        Check.finish("TypingBoundaryTest");
    }

    private static Shrinkforge classes(int many) {
        Shrinkforge x = new Shrinkforge();
        for (int c = 0; c < many; c++) {
            x.cls(-1, false);
        }
        return x;
    }

    /** "CLASSES: at most 8, C0 to C7"; "IllegalStateException if there are 8". */
    private static void atMost8Classes() {
        Shrinkforge x = classes(7);
        Check.same("the eighth", x.cls(-1, false), 7);
        Check.same("eight", x.house(0), 8);
        Check.refuses(x, "a ninth class", Check.STATE, () -> x.cls(-1, false));
        Check.refuses(x, "a ninth, an interface", Check.STATE, () -> x.cls(-1, true));
        Check.refuses(x, "a ninth with a SUPER", Check.STATE, () -> x.cls(7, false));
        Check.refuses(x, "no class as SUPER goes ahead of full", Check.ARGUMENT, () -> x.cls(8, false));
        Check.refuses(x, "a SUPER of an INTERFACE goes ahead of full", Check.ARGUMENT, () -> x.cls(0, true));
        x.method(7, 0, 0, true, 0);
        x.entry(0, true);
        Ops.type(x, 0, "PUSH 1; RETURN");
        x.named(6, true);
        x.shrink();
        Check.same("C6 and C7", x.map(), "C6>C6:;C7>C7: m0/0>m0;");
        Check.same("a new program has room again", x.wipe() + x.cls(-1, false), 1);
    }

    /** "above is not NONE and no CLASS, or an INTERFACE, or not NONE with isInterface". */
    private static void superOfAClass() {
        Shrinkforge x = new Shrinkforge();
        Check.refuses(x, "SUPER 0 without a class", Check.ARGUMENT, () -> x.cls(0, false));
        Check.same("NONE is -1", x.cls(-1, false), 0);
        for (int above : new int[] {-2, 1, 2, 8, 31, 32, LEAST, GREATEST}) {
            Check.refuses(x, "SUPER " + above, Check.ARGUMENT, () -> x.cls(above, false));
            Check.refuses(x, "SUPER of an INTERFACE " + above, Check.ARGUMENT, () -> x.cls(above, true));
        }
        Check.refuses(x, "an INTERFACE with a SUPER", Check.ARGUMENT, () -> x.cls(0, true));
        Check.same("an INTERFACE without", x.cls(-1, true), 1);
        Check.refuses(x, "an INTERFACE as SUPER", Check.ARGUMENT, () -> x.cls(1, false));
        Check.refuses(x, "an INTERFACE as SUPER of one", Check.ARGUMENT, () -> x.cls(1, true));
        Check.same("the smallest as SUPER", x.cls(0, false), 2);
        Check.same("the one before as SUPER", x.cls(2, false), 3);
        Check.same("SUPER 0", x.ofClass(2, 0), 0);
        Check.same("SUPER 2", x.ofClass(3, 0), 2);
        Check.same("no SUPER", x.ofClass(0, 0), -1);
        Check.same("an INTERFACE has none", x.ofClass(1, 0), -1);
        Check.same("one is an INTERFACE", x.ofClass(0, 1) * 10 + x.ofClass(1, 1), 1);
    }

    /** "at most 2 INTERFACES of its own"; "IllegalStateException if it has 2". */
    private static void atMost2Interfaces() {
        Shrinkforge x = Ops.program("class", "interface", "interface", "interface", "class 0");
        Check.same("none", x.ofClass(0, 3), 0);
        Check.same("one", x.implement(0, 1), 1);
        Check.same("set of one", x.ofClass(0, 3), 2);
        Check.same("two", x.implement(0, 3), 2);
        Check.same("set of two", x.ofClass(0, 3), 10);
        Check.refuses(x, "a third", Check.STATE, () -> x.implement(0, 2));
        Check.refuses(x, "what it has goes ahead of full", Check.ARGUMENT, () -> x.implement(0, 3));
        Check.refuses(x, "no INTERFACE goes ahead of full", Check.ARGUMENT, () -> x.implement(0, 4));
        Check.refuses(x, "no class goes ahead of full", Check.INDEX, () -> x.implement(0, 5));
        Check.same("of its own: those of the SUPER do not count", x.implement(4, 1), 1);
        Check.same("of its own, the second", x.implement(4, 2), 2);
        Check.refuses(x, "of its own, a third", Check.STATE, () -> x.implement(4, 3));
    }

    /** "cls is an INTERFACE, or other is none, or it has that already". */
    private static void whoImplementsWhat() {
        Shrinkforge x = Ops.program("class", "interface", "class", "interface");
        for (int none : new int[] {-1, 4, 8, 31, 32, LEAST, GREATEST}) {
            Check.refuses(x, "no class " + none, Check.INDEX, () -> x.implement(none, 1));
            Check.refuses(x, "no other " + none, Check.INDEX, () -> x.implement(0, none));
            Check.refuses(x, "no other goes ahead, too: " + none, Check.INDEX, () -> x.implement(1, none));
        }
        Check.refuses(x, "an INTERFACE has none", Check.ARGUMENT, () -> x.implement(1, 3));
        Check.refuses(x, "nor itself", Check.ARGUMENT, () -> x.implement(1, 1));
        Check.refuses(x, "a class is none", Check.ARGUMENT, () -> x.implement(0, 2));
        Check.refuses(x, "it itself is none", Check.ARGUMENT, () -> x.implement(0, 0));
        Check.same("one that came later", x.implement(0, 3), 1);
        Check.refuses(x, "already", Check.ARGUMENT, () -> x.implement(0, 3));
        Check.same("another one", x.implement(0, 1), 2);
        Check.same("another class", x.implement(2, 3), 1);
    }

    /** "A class IS A class, if it is that class, or its SUPER, or one of its INTERFACES, IS A that class." */
    private static void isA() {
        Shrinkforge x = Ops.program("class", "class 0", "class 1", "class 2", "class 3", "class 4", "interface", "interface");
        x.implement(0, 6);
        x.implement(3, 7);
        for (int c = 0; c < 8; c++) {
            for (int other = 0; other < 6; other++) {
                Check.same("IS A " + c + " " + other, x.isA(c, other), c < 6 ? other <= c : false);
            }
            Check.same("INTERFACE of the uppermost " + c, x.isA(c, 6), c < 6 || c == 6);
            Check.same("INTERFACE of a middle one " + c, x.isA(c, 7), c >= 3 && c < 6 || c == 7);
        }
        for (int none : new int[] {-1, 8, 31, 32, LEAST, GREATEST}) {
            Check.refuses(x, "no class " + none, Check.INDEX, () -> x.isA(none, 0));
            Check.refuses(x, "no other " + none, Check.INDEX, () -> x.isA(0, none));
        }
        Shrinkforge y = Ops.program("class", "class 0", "class 1", "class 2", "class 3", "class 4", "class 5", "class 6");
        Check.same("seven up", y.isA(7, 0), true);
        Check.same("not down", y.isA(0, 7), false);
        Check.same("not aside", Ops.program("class", "class 0", "class 0").isA(1, 2), false);
    }

    /** "UPWARD from a class: itself, its SUPER, the SUPER of that, and so on." */
    private static void upward() {
        Shrinkforge x = Ops.program("class", "class 0", "class 1", "class 2", "class 3", "class 4", "class 5", "class 6",
                "method 0 0 0", "field 0 0", "method 6 1 0", "method 7 1 0", "field 5 1", "field 6 1 static");
        Check.same("method, seven up", x.findMethod(7, 0), 0);
        Check.same("method of itself", x.findMethod(0, 0), 0);
        Check.same("the first one", x.findMethod(7, 4), 2);
        Check.same("the first one from 6", x.findMethod(6, 4), 1);
        Check.same("not from below", x.findMethod(5, 4), -1);
        Check.same("field, seven up", x.findField(7, 0), 0);
        Check.same("field of itself", x.findField(0, 0), 0);
        Check.same("the first field, STATIC or not", x.findField(7, 1), 2);
        Check.same("the first field from 5", x.findField(5, 1), 1);
        Check.same("no field from below", x.findField(4, 1), -1);
        Shrinkforge y = Ops.program("class", "interface", "method 1 0 0");
        y.implement(0, 1);
        Check.same("INTERFACES are not UPWARD", y.findMethod(0, 0), -1);
        Check.same("an INTERFACE itself", y.findMethod(1, 0), 0);
    }

    /** "A class may be NAMED"; "Returns whether it was". */
    private static void namedOrNot() {
        Shrinkforge x = Ops.program("class", "interface");
        for (int none : new int[] {-1, 2, 8, 31, 32, LEAST, GREATEST}) {
            Check.refuses(x, "no class " + none, Check.INDEX, () -> x.named(none, true));
        }
        for (int c = 0; c < 2; c++) {
            Check.same("is none at first", x.ofClass(c, 2), 0);
            Check.same("was none, stays none", x.named(c, false), false);
            Check.same("was none", x.named(c, true), false);
            Check.same("is", x.ofClass(c, 2), 1);
            Check.same("was", x.named(c, true), true);
            Check.same("was, is no more", x.named(c, false), true);
            Check.same("is none", x.ofClass(c, 2), 0);
        }
        x.named(1, true);
        Check.same("the other one is not", x.ofClass(0, 2), 0);
    }

    /** "FIELDS: at most 16"; "IllegalStateException if there are 16". */
    private static void atMost16Fields() {
        Shrinkforge x = classes(2);
        for (int f = 0; f < 15; f++) {
            Check.same("field " + f, x.field(f / 10, f % 10, false), f);
        }
        Check.same("the sixteenth", x.field(1, 5, true), 15);
        Check.same("sixteen", x.house(1), 16);
        Check.same("of C0", x.ofClass(0, 5), 10);
        Check.same("of C1", x.ofClass(1, 5), 6);
        Check.refuses(x, "a 17th", Check.STATE, () -> x.field(1, 6, false));
        Check.refuses(x, "name 10 goes ahead of full", Check.ARGUMENT, () -> x.field(1, 10, false));
        Check.refuses(x, "twice goes ahead of full", Check.ARGUMENT, () -> x.field(1, 5, false));
        Check.refuses(x, "no class goes ahead of full", Check.INDEX, () -> x.field(2, 6, false));
        Check.same("the last one", x.ofField(15, 0) * 100 + x.ofField(15, 1) * 10 + x.ofField(15, 2), 151);
        Check.same("it is found", x.findField(1, 5), 15);
    }

    /** "each of a class, with a NAME 0 to 9 (not twice in a class), STATIC or not". */
    private static void namesOfFields() {
        Shrinkforge x = Ops.program("class", "class 0", "interface");
        for (int none : new int[] {-1, 3, 8, 31, 32, LEAST, GREATEST}) {
            Check.refuses(x, "no class " + none, Check.INDEX, () -> x.field(none, 0, false));
        }
        for (int name : new int[] {-1, 10, LEAST, GREATEST}) {
            Check.refuses(x, "no name " + name, Check.ARGUMENT, () -> x.field(0, name, false));
            Check.refuses(x, "no class goes ahead " + name, Check.INDEX, () -> x.field(3, name, false));
        }
        Check.same("NAME 0", x.field(0, 0, false), 0);
        Check.same("NAME 9", x.field(0, 9, true), 1);
        Check.same("as they were told", x.ofField(0, 1) * 10 + x.ofField(1, 1), 9);
        Check.same("STATIC or not", x.ofField(0, 2) * 10 + x.ofField(1, 2), 1);
        Check.refuses(x, "NAME 0 twice", Check.ARGUMENT, () -> x.field(0, 0, false));
        Check.refuses(x, "NAME 9 twice, not STATIC", Check.ARGUMENT, () -> x.field(0, 9, false));
        Check.refuses(x, "a field of an INTERFACE", Check.ARGUMENT, () -> x.field(2, 1, false));
        Check.refuses(x, "a STATIC one of an INTERFACE", Check.ARGUMENT, () -> x.field(2, 1, true));
        Check.same("NAME 0 in another class", x.field(1, 0, false), 2);
        Check.same("its class", x.ofField(2, 0), 1);
    }

    /** "METHODS: at most 24"; "IllegalStateException if there are 24". */
    private static void atMost24Methods() {
        Shrinkforge x = classes(2);
        for (int m = 0; m < 23; m++) {
            Check.same("method " + m, x.method(m / 16, m % 16, 0, false, 0), m);
        }
        Check.same("the 24th", x.method(1, 15, 3, true, 4), 23);
        Check.same("24", x.house(2), 24);
        Check.same("of C0", x.ofClass(0, 4), 16);
        Check.same("of C1", x.ofClass(1, 4), 8);
        Check.refuses(x, "a 25th", Check.STATE, () -> x.method(1, 15, 2, true, 4));
        Check.refuses(x, "name 16 goes ahead of full", Check.ARGUMENT, () -> x.method(1, 16, 0, true, 0));
        Check.refuses(x, "twice goes ahead of full", Check.ARGUMENT, () -> x.method(1, 15, 3, true, 0));
        Check.refuses(x, "no class goes ahead of full", Check.INDEX, () -> x.method(2, 14, 0, true, 0));
        Check.same("the last one has code", x.code(23, Ops.NOP, 0, 0), 1);
        Check.same("the others have none", x.ofMethod(22, 5), 0);
    }

    /** "a NAME 0 to 15, an ARITY 0 to 3, STATIC or not, and LOCALS"; "locals not 0 to 4". */
    private static void numbersOfMethods() {
        Shrinkforge x = classes(1);
        for (int none : new int[] {-1, 1, 8, 31, 32, LEAST, GREATEST}) {
            Check.refuses(x, "no class " + none, Check.INDEX, () -> x.method(none, 0, 0, false, 0));
            Check.refuses(x, "no class goes ahead " + none, Check.INDEX, () -> x.method(none, 16, 4, false, 5));
        }
        for (int out : new int[] {-1, 16, LEAST, GREATEST}) {
            Check.refuses(x, "NAME " + out, Check.ARGUMENT, () -> x.method(0, out, 0, false, 0));
        }
        for (int out : new int[] {-1, 4, LEAST, GREATEST}) {
            Check.refuses(x, "ARITY " + out, Check.ARGUMENT, () -> x.method(0, 0, out, false, 0));
        }
        for (int out : new int[] {-1, 5, LEAST, GREATEST}) {
            Check.refuses(x, "LOCALS " + out, Check.ARGUMENT, () -> x.method(0, 0, 0, false, out));
        }
        Check.same("the least", x.method(0, 0, 0, false, 0), 0);
        Check.same("the most", x.method(0, 15, 3, true, 4), 1);
        int[][] due = {{0, 0, 0, 0, 0, 0, 0, 0}, {0, 15, 3, 1, 4, 0, 0, 0}};
        for (int m = 0; m < 2; m++) {
            for (int what = 0; what < 8; what++) {
                Check.same("method " + m + " " + what, x.ofMethod(m, what), due[m][what]);
            }
        }
    }

    /** "A SIGNATURE is NAME * 4 + ARITY; no class has two methods of one SIGNATURE." */
    private static void signatures() {
        Shrinkforge x = Ops.program("class", "class 0", "interface", "method 0 0 0", "method 0 15 3", "method 0 3 1");
        Check.same("SIGNATURE 0", x.findMethod(0, 0), 0);
        Check.same("SIGNATURE 63", x.findMethod(0, 63), 1);
        Check.same("SIGNATURE 13", x.findMethod(0, 13), 2);
        Check.same("SIGNATURE 12", x.findMethod(0, 12), -1);
        Check.refuses(x, "twice", Check.ARGUMENT, () -> x.method(0, 3, 1, false, 0));
        Check.refuses(x, "twice, STATIC", Check.ARGUMENT, () -> x.method(0, 3, 1, true, 2));
        Check.same("another ARITY", x.method(0, 3, 0, false, 0), 3);
        Check.same("another NAME", x.method(0, 4, 1, false, 0), 4);
        Check.same("in a class below", x.method(1, 3, 1, true, 0), 5);
        Check.same("in an INTERFACE", x.method(2, 3, 1, false, 0), 6);
        Check.refuses(x, "twice in an INTERFACE", Check.ARGUMENT, () -> x.method(2, 3, 1, false, 0));
    }

    /** "A method has at most 30 INSTRUCTIONS"; "IllegalStateException if there are 30". */
    private static void atMost30Instructions() {
        Shrinkforge x = Ops.program("class", "method 0 0 0", "method 0 1 0");
        for (int n = 1; n <= 29; n++) {
            Check.same("instruction " + n, x.code(0, Ops.PUSH, n, 0), n);
        }
        Check.same("the 30th", x.code(0, Ops.RETURN, 0, 0), 30);
        Check.same("place 29", x.instruction(0, 29, 0), Ops.RETURN);
        Check.refuses(x, "a 31st", Check.STATE, () -> x.code(0, Ops.NOP, 0, 0));
        Check.refuses(x, "op 32 goes ahead of full", Check.ARGUMENT, () -> x.code(0, 32, 0, 0));
        Check.refuses(x, "b 64 goes ahead of full", Check.ARGUMENT, () -> x.code(0, 0, 0, 64));
        Check.same("another method has room", x.code(1, Ops.NOP, 0, 0), 1);
        Check.same("all INSTRUCTIONS", x.house(3), 31);
        x.cut(0, 1);
        Check.same("room again", x.code(0, Ops.NOP, 0, 0), 30);
        Check.refuses(x, "full again", Check.STATE, () -> x.code(0, Ops.NOP, 0, 0));
    }

    /** "op is not 0 to 31, or b not 0 to 63"; a may be any number. */
    private static void numbersOfInstructions() {
        Shrinkforge x = Ops.program("class", "method 0 0 0: PUSH 5; RETURN");
        for (int none : new int[] {-1, 1, 24, 31, 32, LEAST, GREATEST}) {
            Check.refuses(x, "no method " + none, Check.INDEX, () -> x.code(none, 0, 0, 0));
            Check.refuses(x, "no method goes ahead " + none, Check.INDEX, () -> x.code(none, 32, 0, 64));
            Check.refuses(x, "no method to change " + none, Check.INDEX, () -> x.change(none, 0, 0, 0, 0));
        }
        for (int out : new int[] {-1, 32, 33, 34, LEAST, GREATEST}) {
            Check.refuses(x, "op " + out, Check.ARGUMENT, () -> x.code(0, out, 0, 0));
            Check.refuses(x, "changed op " + out, Check.ARGUMENT, () -> x.change(0, 0, out, 0, 0));
        }
        for (int out : new int[] {-1, 64, LEAST, GREATEST}) {
            Check.refuses(x, "b " + out, Check.ARGUMENT, () -> x.code(0, Ops.CALL, 0, out));
            Check.refuses(x, "b that is not needed " + out, Check.ARGUMENT, () -> x.code(0, Ops.NOP, 0, out));
            Check.refuses(x, "changed b " + out, Check.ARGUMENT, () -> x.change(0, 0, Ops.CALL, 0, out));
            Check.refuses(x, "changed b, not needed " + out, Check.ARGUMENT, () -> x.change(0, 0, Ops.NOP, 0, out));
        }
        Check.same("what is refused changes nothing", x.instruction(0, 0, 0) * 10 + x.instruction(0, 0, 1), 5);
        Check.same("op 0", x.code(0, 0, LEAST, 0), 3);
        Check.same("op 31", x.code(0, 31, GREATEST, 63), 4);
        Check.same("b 63", x.code(0, Ops.CALL, GREATEST, 63), 5);
        Check.same("b 0", x.code(0, Ops.CALL, LEAST, 0), 6);
        Check.same("the least a", x.instruction(0, 2, 1), LEAST);
        Check.same("the greatest a", x.instruction(0, 4, 1), GREATEST);
        Check.same("b 63 stays", x.instruction(0, 4, 2), 63);
        Check.same("b 0 stays", x.instruction(0, 5, 2), 0);
    }

    /** "what it does not need is 0, whatever was told". */
    private static void whatIsNotNeeded() {
        String needsA = " PUSH LOAD STORE JUMP IF0 NEW GET PUT SGET SPUT CALL DCALL SCALL CAST ISA ";
        String needsB = " GET PUT SGET SPUT CALL DCALL SCALL ";
        for (int op = 0; op < 32; op++) {
            String word = " " + Ops.word(op) + " ";
            int a = needsA.contains(word) ? -7 : 0;
            int b = needsB.contains(word) ? 63 : 0;
            Shrinkforge x = Ops.program("class", "method 0 0 0: CALL 5 6");
            x.code(0, op, -7, 63);
            Check.same("op" + word, x.instruction(0, 1, 0), op);
            Check.same("a of" + word, x.instruction(0, 1, 1), a);
            Check.same("b of" + word, x.instruction(0, 1, 2), b);
            x.change(0, 0, op, -7, 63);
            Check.same("changed op" + word, x.instruction(0, 0, 0), op);
            Check.same("changed a of" + word, x.instruction(0, 0, 1), a);
            Check.same("changed b of" + word, x.instruction(0, 0, 2), b);
            Check.same("the place behind stays" + word, x.instruction(0, 1, 0), op);
        }
    }

    /** change: "no such place in it"; "Returns the OP of the one before". */
    private static void changedPlaces() {
        Shrinkforge x = Ops.program("class", "method 0 0 0: PUSH 5; NEG; RETURN", "method 0 1 0");
        for (int none : new int[] {-1, 3, 30, 31, 32, LEAST, GREATEST}) {
            Check.refuses(x, "no place " + none, Check.INDEX, () -> x.change(0, none, 0, 0, 0));
            Check.refuses(x, "no place goes ahead " + none, Check.INDEX, () -> x.change(0, none, 32, 0, 64));
        }
        Check.refuses(x, "no place of an ABSTRACT one", Check.INDEX, () -> x.change(1, 0, 0, 0, 0));
        Check.same("the first place", x.change(0, 0, Ops.NULL, 0, 0), Ops.PUSH);
        Check.same("the last place", x.change(0, 2, Ops.THROW, 0, 0), Ops.RETURN);
        Check.same("again", x.change(0, 2, Ops.RETURN, 0, 0), Ops.THROW);
        Check.same("as many as before", x.ofMethod(0, 5), 3);
        Check.same("the middle stays", x.instruction(0, 1, 0), Ops.NEG);
        x.guard(0, 0, 1, 2);
        x.change(0, 0, Ops.NOP, 0, 0);
        Check.same("GUARDS stay", x.ofMethod(0, 6), 1);
    }

    /** cut: "Takes the last INSTRUCTIONS away, and all its GUARDS (also with 0)"; "many is not 0 to how many there are". */
    private static void cuts() {
        Shrinkforge x = Ops.program("class", "method 0 0 0: PUSH 5; NEG; RETURN", "method 0 1 0", "guard 0 0 1 2",
                "guard 0 1 2 2", "guard 1 0 1 2");
        for (int none : new int[] {-1, 2, 24, 31, 32, LEAST, GREATEST}) {
            Check.refuses(x, "no method " + none, Check.INDEX, () -> x.cut(none, 0));
            Check.refuses(x, "no method goes ahead " + none, Check.INDEX, () -> x.cut(none, -1));
        }
        for (int out : new int[] {-1, 4, LEAST, GREATEST}) {
            Check.refuses(x, "many " + out, Check.ARGUMENT, () -> x.cut(0, out));
        }
        Check.refuses(x, "one of none", Check.ARGUMENT, () -> x.cut(1, 1));
        Check.same("refused: GUARDS stay", x.ofMethod(0, 6), 2);
        Check.same("none", x.cut(0, 0), 3);
        Check.same("GUARDS are gone with 0", x.ofMethod(0, 6), 0);
        Check.same("none of none", x.cut(1, 0), 0);
        Check.same("GUARDS of an ABSTRACT one, too", x.ofMethod(1, 6), 0);
        Check.same("the last one", x.cut(0, 1), 2);
        Check.same("the one before stays", x.instruction(0, 1, 0), Ops.NEG);
        Check.refuses(x, "its place is gone", Check.INDEX, () -> x.instruction(0, 2, 0));
        Check.refuses(x, "more than are left", Check.ARGUMENT, () -> x.cut(0, 3));
        x.guard(0, 0, 1, 1);
        Check.same("all that are left", x.cut(0, 2), 0);
        Check.same("GUARDS are gone", x.ofMethod(0, 6), 0);
        Check.same("behind it a new first one", x.code(0, Ops.NULL, 0, 0), 1);
        Check.same("at place 0", x.instruction(0, 0, 0), Ops.NULL);
    }

    /** "one without any is ABSTRACT". */
    private static void abstractOnes() {
        Shrinkforge x = Ops.program("class", "method 0 0 0 static entry: NEW 0; CALL 0 4; RETURN", "method 0 1 0");
        Check.same("ABSTRACT", x.run(0, 0), "!5");
        Check.same("RIGHT", x.isRight(1), true);
        x.code(1, Ops.NOP, 0, 0);
        Check.same("with one it is none, and not RIGHT", x.isRight(1), false);
        x.change(1, 0, Ops.NULL, 0, 0);
        x.code(1, Ops.RETURN, 0, 0);
        Check.same("with code it is called", x.run(0, 0), "=null");
        x.cut(1, 2);
        Check.same("cut to none it is ABSTRACT again", x.run(0, 0), "!5");
        x.method(0, 2, 3, true, 4);
        Check.same("a STATIC one may be ABSTRACT", x.isRight(2), true);
        x.cut(0, 3);
        Check.same("an ENTRY that is cut to none stays one", x.ofMethod(0, 7), 1);
        Check.same("but is not RIGHT", x.isRight(0), false);
    }

    /** "A method has at most 2 GUARDS"; "IllegalStateException if it has 2". */
    private static void atMost2Guards() {
        Shrinkforge x = Ops.program("class", "method 0 0 0: PUSH 1; RETURN", "method 0 1 0: PUSH 1; RETURN");
        Check.same("none", x.ofMethod(0, 6), 0);
        Check.same("one", x.guard(0, 0, 1, 1), 1);
        Check.same("two, alike", x.guard(0, 0, 1, 1), 2);
        Check.refuses(x, "a third", Check.STATE, () -> x.guard(0, 0, 1, 1));
        Check.refuses(x, "a place goes ahead of full", Check.ARGUMENT, () -> x.guard(0, 0, 1, 31));
        Check.same("another method", x.guard(1, 0, 1, 1), 1);
        x.cut(0, 0);
        Check.same("room again", x.guard(0, 0, 1, 1), 1);
    }

    /** "from, to or handler is not 0 to 30"; "no such METHOD". */
    private static void placesOfGuards() {
        Shrinkforge x = Ops.program("class", "method 0 0 0: PUSH 1; RETURN");
        for (int none : new int[] {-1, 1, 24, 31, 32, LEAST, GREATEST}) {
            Check.refuses(x, "no method " + none, Check.INDEX, () -> x.guard(none, 0, 1, 1));
            Check.refuses(x, "no method goes ahead " + none, Check.INDEX, () -> x.guard(none, -1, 31, 31));
        }
        for (int out : new int[] {-1, 31, LEAST, GREATEST}) {
            Check.refuses(x, "from " + out, Check.ARGUMENT, () -> x.guard(0, out, 1, 1));
            Check.refuses(x, "to " + out, Check.ARGUMENT, () -> x.guard(0, 0, out, 1));
            Check.refuses(x, "handler " + out, Check.ARGUMENT, () -> x.guard(0, 0, 1, out));
        }
        Check.same("all 30, though not RIGHT", x.guard(0, 30, 30, 30), 1);
        Check.same("all 0, though not RIGHT", x.guard(0, 0, 0, 0), 2);
        Check.same("not RIGHT", x.isRight(0), false);
    }

    /** "An ENTRY is a STATIC method with an ARITY of 0 or 1 that is told to be one." */
    private static void entries() {
        Shrinkforge x = Ops.program("class", "method 0 0 0 static", "method 0 1 1 static", "method 0 2 2 static",
                "method 0 3 3 static", "method 0 4 0", "method 0 5 1");
        for (int none : new int[] {-1, 6, 24, 31, 32, LEAST, GREATEST}) {
            Check.refuses(x, "no method " + none, Check.INDEX, () -> x.entry(none, true));
        }
        for (int m = 2; m < 6; m++) {
            int method = m;
            Check.refuses(x, "no ENTRY " + m, Check.ARGUMENT, () -> x.entry(method, true));
            Check.refuses(x, "not even told to be none " + m, Check.ARGUMENT, () -> x.entry(method, false));
        }
        for (int m = 0; m < 2; m++) {
            Check.same("none at first", x.ofMethod(m, 7), 0);
            Check.same("was none", x.entry(m, true), false);
            Check.same("is one", x.ofMethod(m, 7), 1);
            Check.same("was one", x.entry(m, true), true);
            Check.same("was one, is none", x.entry(m, false), true);
            Check.same("is none", x.ofMethod(m, 7), 0);
            Check.same("was none, stays none", x.entry(m, false), false);
        }
    }

    private static void variable(String head, int a, boolean due) {
        for (String code : new String[] {"LOAD " + a + "; RETURN", "NULL; STORE " + a + "; NULL; RETURN",
            "NULL; RETURN; LOAD " + a, "NULL; RETURN; STORE " + a}) {
            Shrinkforge x = Ops.program("class", head + ": " + code);
            Check.same(head + ": " + code, x.isRight(0), due);
        }
    }

    /** "what it was told (...), then LOCALS (...); at most 8 together"; RIGHT: "variables are there". */
    private static void atMost8Variables() {
        variable("method 0 0 3 locals 4", 7, true);
        variable("method 0 0 3 locals 4", 8, false);
        variable("method 0 0 3 static locals 4", 6, true);
        variable("method 0 0 3 static locals 4", 7, false);
        variable("method 0 0 0", 0, true);
        variable("method 0 0 0", 1, false);
        variable("method 0 0 0 static", 0, false);
        variable("method 0 0 0 static locals 1", 0, true);
        variable("method 0 0 0 static locals 1", 1, false);
        variable("method 0 0 1 static", 0, true);
        variable("method 0 0 1 static", 1, false);
        variable("method 0 0 2 locals 1", 3, true);
        variable("method 0 0 2 locals 1", 4, false);
        variable("method 0 0 3 locals 4", -1, false);
        variable("method 0 0 3 locals 4", LEAST, false);
        variable("method 0 0 3 locals 4", GREATEST, false);
        variable("method 0 0 3 locals 4", 32, false);
    }

    /** "of one that is not STATIC first the object itself, then ARITY values; of a STATIC one ARITY values". */
    private static void variablesInOrder() {
        String entry = "method 0 0 0 static entry: NEW 0; PUSH 10; PUSH 20; PUSH 30; CALL 0 7; RETURN";
        String[] due = {"=C0", "=10", "=20", "=30", "=0", "=0", "=0", "=0"};
        for (int a = 0; a < 8; a++) {
            Shrinkforge x = Ops.program("class", entry, "method 0 1 3 locals 4: LOAD " + a + "; RETURN");
            Check.same("variable " + a, x.run(0, 0), due[a]);
        }
        for (int a = 0; a < 7; a++) {
            Shrinkforge x = Ops.program("class", "method 0 0 0 static entry: PUSH 10; PUSH 20; PUSH 30; SCALL 0 7; RETURN",
                    "method 0 1 3 static locals 4: LOAD " + a + "; RETURN");
            Check.same("variable of a STATIC one " + a, x.run(0, 0), due[a + 1]);
        }
        Shrinkforge y = Ops.program("class", "method 0 0 1 static entry locals 1: LOAD 0; RETURN");
        Check.same("the number that is told", y.run(0, LEAST), "=-2147483648");
        Shrinkforge z = Ops.program("class", "method 0 0 0 static entry locals 1: LOAD 0; RETURN");
        Check.same("it is not used with ARITY 0", z.run(0, 9), "=0");
    }

    /** "then LOCALS that are 0 at first": each time that the method is begun. */
    private static void localsAreZeroAtFirst() {
        Shrinkforge x = Ops.program("class",
                "method 0 0 0 static entry locals 4: SCALL 0 4; POP; SCALL 0 4; LOAD 3; ADD; RETURN",
                "method 0 1 0 static locals 4: LOAD 0; LOAD 1; ADD; LOAD 2; ADD; LOAD 3; ADD; PUSH 7; STORE 0; PUSH 7; STORE 1;"
                        + " NULL; STORE 2; PUSH 7; STORE 3; DUP; PRINT; RETURN");
        Check.same("all are 0", x.run(0, 0), "=0");
        Check.same("both times", x.out(), "0 0");
        Check.same("and in the next run", x.run(0, 0) + x.out(), "=00 0");
    }

    /** Promise 1: "Creates an empty program." */
    private static void newObject() {
        Shrinkforge x = new Shrinkforge();
        for (int what = 0; what <= 7; what++) {
            Check.same("house " + what, x.house(what), 0);
        }
        Check.refuses(x, "no class", Check.INDEX, () -> x.ofClass(0, 0));
        Check.refuses(x, "no field", Check.INDEX, () -> x.ofField(0, 0));
        Check.refuses(x, "no method", Check.INDEX, () -> x.ofMethod(0, 0));
        Check.refuses(x, "nothing shrunk", Check.STATE, x::map);
        Check.same("not RIGHT: no ENTRY", x.areRight(), false);
        Check.same("nothing to wipe", x.wipe(), 0);
        Check.same("another object is another program", x.cls(-1, false) + new Shrinkforge().house(0), 0);
    }
}
