/** The boundaries of section 4: what is KEPT and what is not, DROP and SDROP, new names, lines. */
final class KeptBoundaryTest {
    public static void main(String[] args) {
        allEntries();
        foldedCodeAlone();
        madeClasses();
        keptMethods();
        keptThoughNeverBegun();
        keptByOneThatIsNeverBegun();
        keptFields();
        keptClasses();
        superAndInterfaces();
        drops();
        dropsGoWrong();
        classNames();
        familyNames();
        namesComeAgain();
        fieldNames();
        lineForms();
        linesWithNone();
        maps();
        counts();
        eightClasses();
        shrunkAgain();
        shrunkAnew();
        longChains();
        Check.finish("KeptBoundaryTest");
    }

    private static Shrinkforge shrunk(String... rows) {
        Shrinkforge x = Ops.program(rows);
        Check.isTrue("SHRUNK: " + String.join(", ", rows), x.shrink() > 0);
        return x;
    }

    /** The numbers of what is KEPT: 0 of classes, 1 of methods, 2 of fields. */
    private static String kept(Shrinkforge x, int what) {
        StringBuilder text = new StringBuilder();
        for (int number = 0; number < 24; number++) {
            text.append(x.isKept(what, number) ? " " + number : "");
        }
        return text.toString().trim();
    }

    /** "all ENTRIES are KEPT methods", and nothing that none of them comes to. */
    private static void allEntries() {
        Shrinkforge x = shrunk("class", "class", "class", "method 1 0 0 static entry: NULL; RETURN",
                "method 1 1 1 static: NULL; RETURN", "method 2 2 0 static: NULL; SCALL 1 5; RETURN",
                "method 0 3 1 static entry: NULL; RETURN");
        Check.same("methods", kept(x, 1), "0 3");
        Check.same("classes", kept(x, 0), "0 1");
        x.entry(0, false);
        Check.same("one ENTRY", x.shrink(), 1);
        Check.same("methods of one ENTRY", kept(x, 1), "3");
        Check.same("classes of one ENTRY", kept(x, 0), "0");
        x.entry(1, true);
        Check.same("another ENTRY", x.shrink() + kept(x, 1), "21 3");
    }

    /** "with the FOLDED code of its methods": what is folded away keeps nothing. */
    private static void foldedCodeAlone() {
        String call = "NEW 1; POP; SCALL 0 4; POP; SGET 0 0; POP; ";
        Shrinkforge x = shrunk("class", "class", "field 0 0 static", "method 0 0 0 static entry: PUSH 0; IF0 8; " + call + "NULL; RETURN",
                "method 0 1 0 static: NULL; RETURN");
        Check.same("never come to", kept(x, 0) + "|" + kept(x, 1) + "|" + kept(x, 2), "0|0|");
        Shrinkforge y = shrunk("class", "class", "field 0 0 static", "method 0 0 0 static entry: PUSH 1; IF0 8; " + call + "NULL; RETURN",
                "method 0 1 0 static: NULL; RETURN");
        Check.same("come to", kept(y, 0) + "|" + kept(y, 1) + "|" + kept(y, 2), "0 1|0 1|0");
        Shrinkforge z = shrunk("class", "class", "field 0 0 static", "method 0 0 0 static entry: NULL; RETURN; " + call + "NULL; RETURN",
                "method 0 1 0 static: NULL; RETURN");
        Check.same("behind the end", kept(z, 0) + "|" + kept(z, 1) + "|" + kept(z, 2), "0|0|");
        Shrinkforge v = Ops.program("class", "class", "method 0 0 0 static entry: PUSH 1; POP; NULL; RETURN; POP; NEW 1; RETURN",
                "guard 0 0 2 4");
        v.shrink();
        Check.same("a HANDLER whose GUARD is out", kept(v, 0), "0");
        v.cut(0, 0);
        v.guard(0, 0, 3, 4);
        v.shrink();
        Check.same("a HANDLER whose GUARD is not", kept(v, 0), "0 1");
    }

    /** "a class is MADE, if it is NAMED and no INTERFACE, or a KEPT method has a NEW of it that is no INTERFACE". */
    private static void madeClasses() {
        String[] methods = {"method 0 1 0: PUSH 10; RETURN", "method 1 1 0: PUSH 11; RETURN", "method 2 1 0: PUSH 12; RETURN"};
        String entry = "method 0 0 1 static entry: ";
        String calling = "LOAD 0; NEWBY; CALL 0 4; RETURN";
        Check.same("none is MADE", kept(shrunk("class", "class 0", "class 0", entry + calling, methods[0], methods[1], methods[2]), 1), "0");
        Check.same("by NAMED", kept(shrunk("class", "class 0 named", "class 0", entry + calling, methods[0], methods[1], methods[2]), 1),
                "0 2");
        Check.same("by NEW", kept(shrunk("class", "class 0", "class 0", entry + "NEW 2; POP; " + calling, methods[0], methods[1],
                methods[2]), 1), "0 3");
        Check.same("by NEW of a method that is not KEPT", kept(shrunk("class", "class 0", "class 0", entry + calling, methods[0],
                methods[1], methods[2], "method 0 2 0 static: NEW 2; RETURN"), 1), "0");
        Check.same("by NEW of one that is, behind it", kept(shrunk("class", "class 0", "class 0", entry
                + "LOAD 0; NEWBY; CALL 0 4; POP; SCALL 0 8; RETURN", methods[0], methods[1], methods[2],
                "method 0 2 0 static: NEW 2; RETURN"), 1), "0 3 4");
        Check.same("by NEW behind the CALL", kept(shrunk("class", "class 0", "class 0", entry + "LOAD 0; NEWBY; CALL 0 4; POP; NEW 2;"
                + " RETURN", methods[0], methods[1], methods[2]), 1), "0 3");
        Shrinkforge x = shrunk("class", "interface named", "interface", "class", entry + "NEW 1; POP; NEW 2; POP; NEW 3; RETURN");
        Check.same("INTERFACES are not MADE", x.ofShrunk(4), 1);
        Check.same("but KEPT", kept(x, 0), "0 1 2 3");
        Check.same("NAMED and NEW", shrunk("class named", entry + "NEW 0; RETURN").ofShrunk(4), 1);
        Check.same("CAST, ISA, calls do not make", shrunk("class", "class", entry
                + "NULL; CAST 1; ISA 1; POP; SCALL 1 0; RETURN").ofShrunk(4), 0);
    }

    /** "a DCALL or SCALL for which it is found first, or a CALL for which it is found first from a MADE class that IS A class a". */
    private static void keptMethods() {
        String[] rows = {"class", "class 0", "class 1", "class 0", "method 0 1 0: NULL; RETURN", "method 1 1 0: NULL; RETURN",
            "method 2 1 0: NULL; RETURN", "method 3 1 0: NULL; RETURN", "method 0 2 0 static: NULL; RETURN",
            "method 1 2 0 static: NULL; RETURN"};
        String[][] dues = {{"NULL; CALL 0 4", "6"}, {"NEW 0; CALL 0 4", "0 6"}, {"NEW 1; CALL 0 4", "1 6"}, {"NEW 2; CALL 0 4", "2 6"},
            {"NEW 3; CALL 0 4", "3 6"}, {"NEW 3; POP; NEW 1; CALL 0 4", "1 3 6"}, {"NEW 3; POP; NEW 2; CALL 1 4", "2 6"},
            {"NEW 0; CALL 1 4", "6"}, {"NEW 3; CALL 2 4", "6"}, {"NEW 3; DCALL 2 4", "2 6"}, {"NULL; DCALL 0 4", "0 6"},
            {"NULL; DCALL 1 4", "1 6"}, {"NULL; DCALL 3 4", "3 6"}, {"SCALL 0 8", "4 6"}, {"SCALL 1 8", "5 6"}, {"SCALL 2 8", "5 6"},
            {"SCALL 3 8", "4 6"}, {"NEW 0; CALL 0 12", "6"}, {"SCALL 0 12", "6"}, {"NULL; DCALL 0 12", "6"}};
        for (String[] due : dues) {
            String[] all = java.util.Arrays.copyOf(rows, rows.length + 1);
            all[rows.length] = "method 0 15 0 static entry: " + due[0] + "; RETURN";
            Check.same(due[0], kept(shrunk(all), 1), due[1]);
        }
        Shrinkforge y = Ops.program("class", "interface", "class 0", "method 1 1 0", "method 0 1 0: NULL; RETURN",
                "method 0 0 0 static entry: NEW 2; CALL 1 4; RETURN");
        y.shrink();
        Check.same("no C1 is MADE", kept(y, 1), "2");
        y.implement(0, 1);
        y.shrink();
        Check.same("found first from a class that IS A C1", kept(y, 1), "1 2");
        y.change(2, 1, Ops.DCALL, 1, 4);
        y.shrink();
        Check.same("found first from the INTERFACE", kept(y, 1), "0 2");
        Check.same("a CALL of a CALL", kept(shrunk("class", "method 0 0 0 static entry: SCALL 0 12; RETURN",
                "method 0 1 0 static: SCALL 0 8; RETURN", "method 0 2 0 static: NULL; RETURN", "method 0 3 0 static: SCALL 0 4; RETURN"), 1),
                "0 1 2 3");
        Check.same("of one another", kept(shrunk("class", "method 0 0 0 static entry: NULL; RETURN",
                "method 0 1 0 static: SCALL 0 8; RETURN", "method 0 2 0 static: SCALL 0 4; RETURN"), 1), "0");
    }

    /** "(Found first: also if it is ABSTRACT, or STATIC and must be none; then it is KEPT, but never begun.)" */
    private static void keptThoughNeverBegun() {
        String[][] rows = {{"NEW 0; CALL 0 4", "method 0 1 0"}, {"NEW 0; DCALL 0 4", "method 0 1 0"}, {"SCALL 0 4", "method 0 1 0 static"},
            {"NEW 0; CALL 0 4", "method 0 1 0 static: NULL; RETURN"}, {"NEW 0; DCALL 0 4", "method 0 1 0 static: NULL; RETURN"},
            {"SCALL 0 4", "method 0 1 0: NULL; RETURN"}};
        for (String[] row : rows) {
            Shrinkforge x = shrunk("class", "method 0 0 0 static entry: " + row[0] + "; RETURN", row[1]);
            Check.same(row[0] + " finds " + row[1], kept(x, 1), "0 1");
            Check.same("lines of " + row[1], x.lines(1), row[1].contains(":") ? 2 : 0);
            Check.same("never begun: " + row[1], x.runShrunk(0, 0) + x.begun(1), "!50");
            Check.same("name of " + row[1], x.newName(1, 1), "a");
        }
        Check.same("what it hides is not", kept(shrunk("class", "class 0", "method 0 0 0 static entry: NEW 1; CALL 0 4; RETURN",
                "method 0 1 0: NULL; RETURN", "method 1 1 0"), 1), "0 2");
    }

    /** "a method is KEPT, if a KEPT one has (...)": also one that is never begun. */
    private static void keptByOneThatIsNeverBegun() {
        Shrinkforge x = shrunk("class", "class", "field 0 0 static", "method 0 0 0 static entry: SCALL 0 4; RETURN",
                "method 0 1 0: SCALL 0 8; NEW 1; POP; SGET 0 0; ADD; RETURN", "method 0 2 0 static: NULL; RETURN");
        Check.same("methods", kept(x, 1), "0 1 2");
        Check.same("classes", kept(x, 0), "0 1");
        Check.same("fields", kept(x, 2), "0");
        Check.same("made", x.ofShrunk(4), 1);
    }

    /** "a GET or SGET for which it is found first, or a PUT or SPUT for which it is found first, and is not what it must be". */
    private static void keptFields() {
        String[] rows = {"class", "class 0", "field 0 0", "field 1 0", "field 0 1 static", "field 1 1 static", "field 1 2"};
        String[][] dues = {{"NULL; GET 0 0", "0"}, {"NULL; GET 1 0", "1"}, {"NULL; GET 0 1", "2"}, {"SGET 0 0", "0"}, {"SGET 1 0", "1"},
            {"SGET 0 1", "2"}, {"SGET 1 1", "3"}, {"NULL; NULL; PUT 0 0; NULL", ""}, {"NULL; NULL; PUT 1 0; NULL", ""},
            {"NULL; NULL; PUT 0 1; NULL", "2"}, {"NULL; NULL; PUT 1 1; NULL", "3"}, {"NULL; SPUT 0 1; NULL", ""},
            {"NULL; SPUT 0 0; NULL", "0"}, {"NULL; SPUT 1 0; NULL", "1"}, {"NULL; GET 0 2", ""}, {"NULL; GET 1 2", "4"},
            {"SGET 1 2", "4"}, {"NULL; GET 1 9", ""}, {"NULL; GET 1 63", ""}};
        for (String[] due : dues) {
            String[] all = java.util.Arrays.copyOf(rows, rows.length + 1);
            all[rows.length] = "method 0 0 0 static entry: " + due[0] + "; RETURN";
            Check.same(due[0], kept(shrunk(all), 2), due[1]);
        }
        Check.same("read by one that is not KEPT", kept(shrunk("class", "field 0 0 static", "method 0 0 0 static entry: NULL; SPUT 0 0; NULL; RETURN",
                "method 0 1 0 static: SGET 0 0; RETURN"), 2), "");
        Check.same("read by one that is KEPT", kept(shrunk("class", "field 0 0 static",
                "method 0 0 0 static entry: NULL; SPUT 0 0; SCALL 0 4; RETURN", "method 0 1 0 static: SGET 0 0; RETURN"), 2), "0");
    }

    private static void classKept(String code, String due) {
        Check.same(code, kept(shrunk("class", "class", "class 1", "method 0 0 0 static entry: " + code + "; NULL; RETURN",
                "field 1 0", "field 1 1 static", "method 1 1 0: NULL; RETURN", "method 1 2 0 static: NULL; RETURN"), 0), due);
    }

    /** "if it is MADE, or NAMED, or has a KEPT method or field, or is an a of (...) of a KEPT method". */
    private static void keptClasses() {
        classKept("NULL; POP", "0");
        for (String code : new String[] {"NEW", "SGET"}) {
            classKept(code + " 1", "0 1");
        }
        classKept("NULL; GET 1 0", "0 1");
        classKept("NULL; GET 1 9", "0 1");
        classKept("NULL; NULL; PUT 1 0", "0 1");
        classKept("NULL; NULL; PUT 1 1", "0 1");
        classKept("NULL; NULL; PUT 1 9", "0 1");
        classKept("SGET 1 0", "0 1");
        classKept("NULL; SPUT 1 1", "0 1");
        classKept("NULL; SPUT 1 0", "0 1");
        classKept("NULL; CALL 1 4", "0 1");
        classKept("NULL; CALL 1 40", "0 1");
        classKept("NULL; DCALL 1 4", "0 1");
        classKept("NULL; DCALL 1 40", "0 1");
        classKept("SCALL 1 8", "0 1");
        classKept("SCALL 1 40", "0 1");
        classKept("NULL; CAST 1", "0 1");
        classKept("NULL; ISA 1", "0 1");
        classKept("PUSH 1; NEWBY", "0");
        classKept("NULL; GET 2 0", "0 1 2");
        classKept("SCALL 2 8", "0 1 2");
        Check.same("NAMED", kept(shrunk("class", "class named", "interface named", "class", "method 0 0 0 static entry: NULL; RETURN"), 0),
                "0 1 2");
        Check.same("of an ENTRY", kept(shrunk("class", "class", "method 1 0 0 static entry: NULL; RETURN"), 0), "1");
    }

    /** "or is the SUPER or one of the INTERFACES of a KEPT class". */
    private static void superAndInterfaces() {
        Shrinkforge x = Ops.program("class", "interface", "class 0", "class 2", "interface", "class", "interface",
                "method 5 0 0 static entry: NULL; ISA 3; RETURN");
        x.implement(0, 1);
        x.implement(3, 4);
        x.shrink();
        Check.same("all UPWARD, and their INTERFACES", kept(x, 0), "0 1 2 3 4 5");
        x.change(0, 1, Ops.ISA, 2, 0);
        x.shrink();
        Check.same("not the ones below", kept(x, 0), "0 1 2 5");
        x.change(0, 1, Ops.ISA, 4, 0);
        x.shrink();
        Check.same("not who has an INTERFACE", kept(x, 0), "4 5");
        x.implement(5, 6);
        x.implement(5, 1);
        x.shrink();
        Check.same("both INTERFACES", kept(x, 0), "1 4 5 6");
    }

    /** "a PUT or SPUT of a field that is found first and is what it must be, but is not KEPT, is a DROP or SDROP there". */
    private static void drops() {
        String[][] rows = {{"NEW 1; NULL; PUT 0 0; NULL", "DROP C0"}, {"NEW 1; NULL; PUT 1 0; NULL", "DROP a"},
            {"NEW 1; NULL; PUT 1 2; NULL", "DROP a"}, {"NEW 1; NULL; PUT 0 1; NULL", "PUT C0.-"}, {"NEW 1; NULL; PUT 0 9; NULL", "PUT C0.-"},
            {"NEW 1; NULL; PUT 0 3; NULL", "PUT C0.-"}};
        for (String[] row : rows) {
            Shrinkforge x = dropping(row[0]);
            Check.same(row[0], x.line(0, 2), row[1]);
            Check.same("runs like it: " + row[0], x.areAlike(0, 0), true);
        }
        String[][] statics = {{"NULL; SPUT 0 1; NULL", "SDROP C0"}, {"NULL; SPUT 1 1; NULL", "SDROP a"}, {"NULL; SPUT 0 0; NULL", "SPUT C0.-"},
            {"NULL; SPUT 0 9; NULL", "SPUT C0.-"}, {"NULL; SPUT 1 2; NULL", "SPUT a.-"}};
        for (String[] row : statics) {
            Shrinkforge x = dropping(row[0]);
            Check.same(row[0], x.line(0, 1), row[1]);
            Check.same("runs like it: " + row[0], x.areAlike(0, 0), true);
        }
        Check.same("KEPT by a GET", dropping("NEW 1; NULL; PUT 1 0; NEW 1; GET 1 0").line(0, 2), "PUT a.a");
        Check.same("KEPT by another PUT that it does not fit", dropping("NULL; SPUT 0 0; NEW 0; NULL; PUT 0 0; NULL").line(0, 4), "PUT C0.a");
        Check.same("KEPT by an SGET", dropping("NULL; SPUT 1 1; SGET 0 1").line(0, 1), "SPUT a.a");
        Check.same("an SGET that it does not fit keeps it, too", dropping("NEW 0; NULL; PUT 0 0; SGET 0 0").line(0, 2), "PUT C0.a");
    }

    private static Shrinkforge dropping(String code) {
        return shrunk("class", "class 0", "field 0 0", "field 0 1 static", "field 1 2", "method 0 0 0 static entry: " + code + "; RETURN");
    }

    /** "it takes the same, goes wrong as a PUT or SPUT would (1, 3, 4), and stores nothing". */
    private static void dropsGoWrong() {
        String[][] rows = {{"NULL", "!1"}, {"PUSH 0", "!3"}, {"PUSH 1", "!3"}, {"NEW 1", "!4"}, {"NEW 0", "=8"}, {"NEW 2", "=8"}};
        for (String[] row : rows) {
            for (String value : new String[] {"NULL", "PUSH 4", "NEW 1"}) {
                Shrinkforge x = shrunk("class", "class", "class 0", "field 0 0",
                        "method 0 0 0 static entry: PUSH 8; " + row[0] + "; " + value + "; PUT 0 0; RETURN");
                Check.same("a DROP", x.line(0, 3), "DROP C0");
                Check.same("DROP of " + row[0] + " " + value, x.runShrunk(0, 0), row[1]);
                Check.same("TRACE of " + row[0], x.trace(), row[1].startsWith("!") ? "C0.m0/0:3" : "");
                Check.same("alike " + row[0], x.areAlike(0, 0), true);
            }
        }
        Shrinkforge y = shrunk("class", "field 0 0 static", "method 0 0 0 static entry: PUSH 8; NULL; SPUT 0 0; RETURN");
        Check.same("an SDROP takes one", y.line(0, 2) + y.runShrunk(0, 0), "SDROP C0=8");
    }

    /** "keeps its name, if it is NAMED or has an ENTRY; all others are a, b and so on, by rising numbers". */
    private static void classNames() {
        Shrinkforge x = shrunk("class", "class named", "class", "class", "interface named", "interface", "class", "class",
                "method 3 0 0 static entry: NEW 7; POP; NEW 2; POP; NULL; ISA 5; POP; NEW 0; POP; SCALL 6 4; RETURN",
                "method 6 1 0 static: NULL; RETURN");
        String[] due = {"a", "C1", "b", "C3", "C4", "c", "d", "e"};
        for (int c = 0; c < 8; c++) {
            Check.same("class " + c, x.newName(0, c), due[c]);
        }
        Shrinkforge y = shrunk("class", "class", "class", "method 2 0 0 static entry: NULL; ISA 1; RETURN");
        Check.same("one that is not KEPT takes no letter", y.newName(0, 0) + y.newName(0, 1) + y.newName(0, 2), "aC2");
        Shrinkforge z = shrunk("class", "class", "method 0 0 0 static entry: SCALL 1 4; RETURN", "method 1 1 0 static: NULL; RETURN");
        Check.same("one with a method that is no ENTRY", z.newName(0, 1), "a");
        z.entry(1, true);
        z.shrink();
        Check.same("one with an ENTRY", z.newName(0, 1), "C1");
    }

    /** "A FAMILY (...) keeps its name, if an ENTRY is in it; all others (...) by the number of the smallest method in them". */
    private static void familyNames() {
        Shrinkforge x = shrunk("class", "class 0", "method 0 3 0: NULL; RETURN", "method 1 2 0: NULL; RETURN",
                "method 0 2 0: NULL; RETURN", "method 1 3 0: NULL; RETURN", "method 0 1 0 static: NULL; RETURN",
                "method 1 0 0 static: NULL; RETURN",
                "method 0 0 0 static entry: NEW 1; CALL 0 8; NULL; DCALL 0 8; SCALL 0 4; NULL; DCALL 0 12; NULL; DCALL 1 12;"
                        + " SCALL 1 0; RETURN");
        Check.same("all but none", kept(x, 1), "0 1 2 3 4 5 6");
        String[] due = {"a", "b", "b", "a", "c", "m0", "m0"};
        for (int m = 0; m < 7; m++) {
            Check.same("method " + m, x.newName(1, m), due[m]);
        }
        Check.same("FAMILIES", x.ofShrunk(5), 4);
        Shrinkforge y = shrunk("class", "method 0 5 0 static: NULL; RETURN", "method 0 4 0 static: NULL; RETURN",
                "method 0 0 0 static entry: SCALL 0 16; RETURN");
        Check.same("one that is not KEPT takes no letter", y.newName(1, 0) + y.newName(1, 1), "a");
        Check.same("an ENTRY of another ARITY is another FAMILY", shrunk("class", "method 0 0 1 static entry: SCALL 0 0; RETURN",
                "method 0 0 0 static: NULL; RETURN").newName(1, 1), "a");
    }

    /** "of each ARITY apart (...) (so that names come again with another ARITY)". */
    private static void namesComeAgain() {
        Shrinkforge x = shrunk("class", "method 0 9 3: NULL; RETURN", "method 0 8 2: NULL; RETURN", "method 0 7 1: NULL; RETURN",
                "method 0 6 0: NULL; RETURN", "method 0 5 3: NULL; RETURN", "method 0 4 2: NULL; RETURN", "method 0 3 1: NULL; RETURN",
                "method 0 2 0: NULL; RETURN",
                "method 0 0 0 static entry locals 1: NULL; NULL; NULL; NULL; DCALL 0 39; POP; NULL; NULL; NULL; DCALL 0 34; POP; NULL;"
                        + " NULL; DCALL 0 29; POP; NULL; DCALL 0 24; RETURN");
        Check.same("of each ARITY one", x.map(), "C0>C0: m9/3>a m8/2>a m7/1>a m6/0>a m0/0>m0;");
        for (int arity = 0; arity <= 3; arity++) {
            Check.same("called " + arity, x.called(0, 0, arity), 3 - arity);
            Check.same("no second " + arity, x.called(0, 1, arity), -1);
        }
        String[] rows = new String[18];
        rows[0] = "class";
        StringBuilder calls = new StringBuilder();
        for (int name = 0; name < 16; name++) {
            rows[name + 1] = "method 0 " + name + " 0 static: NULL; RETURN";
            calls.append(name < 14 ? "SCALL 0 " + name * 4 + "; POP; " : "");
        }
        rows[17] = "method 0 0 1 static entry: " + calls + "NULL; RETURN";
        Check.same("14 letters", shrunk(rows).newName(1, 13), "n");
        rows[17] = "method 0 0 1 static entry: " + calls.toString().replace("SCALL 0 0; POP", "SCALL 0 60; POP") + "NULL; RETURN";
        Check.same("the last one of 14", shrunk(rows).newName(1, 15), "n");
    }

    /** "by the letter behind the last one of the class that is next UPWARD and has one (a without such a class)". */
    private static void fieldNames() {
        Shrinkforge x = shrunk("class", "class 0", "class 1", "class 2", "class", "class 4", "interface",
                "field 3 0 static", "field 1 0 static", "field 0 0 static", "field 1 1 static", "field 3 1 static", "field 0 1 static",
                "field 5 0 static", "field 2 9 static", "field 4 3 static",
                "method 0 0 0 static entry: SGET 3 0; SGET 1 0; SGET 0 0; SGET 1 1; SGET 3 1; SGET 0 1; SGET 5 0; RETURN");
        String[] due = {"e", "c", "a", "d", "f", "b", "a", "", ""};
        for (int f = 0; f < due.length; f++) {
            Check.same("field " + f, x.newName(2, f), due[f]);
        }
        Shrinkforge y = shrunk("class", "class 0", "class 1", "field 0 0 static", "field 1 0 static", "field 2 0 static", "field 2 1 static",
                "method 0 0 0 static entry: SGET 0 0; SGET 2 0; SGET 2 1; RETURN");
        Check.same("one between has none", y.newName(2, 0) + y.newName(2, 1) + y.newName(2, 2) + y.newName(2, 3), "abc");
        Shrinkforge z = shrunk("class", "class 0", "class 1", "field 0 0 static", "field 2 0 static",
                "method 0 0 0 static entry: NULL; SPUT 0 0; SGET 2 0; RETURN");
        Check.same("the one above is not KEPT", z.newName(2, 0) + z.newName(2, 1), "a");
        Shrinkforge v = shrunk("class", "class 0", "class 0", "field 1 0 static", "field 2 0 static", "field 1 1",
                "method 0 0 0 static entry: SGET 1 0; SGET 2 0; ADD; NULL; GET 1 1; ADD; RETURN");
        Check.same("of two classes aside", v.newName(2, 0) + v.newName(2, 1) + v.newName(2, 2), "aab");
        String[] rows = new String[19];
        rows[0] = "class";
        rows[1] = "class 0";
        StringBuilder gets = new StringBuilder("NULL; ");
        for (int f = 0; f < 16; f++) {
            rows[f + 2] = "field " + f / 10 + " " + f % 10 + " static";
            gets.append("POP; SGET ").append(f / 10).append(' ').append(f % 10).append("; ");
        }
        rows[18] = "method 0 0 0 static entry: " + gets.toString().replace("POP; SGET 0 9; ", "").replace("POP; SGET 0 8; ", "")
                .replace("POP; SGET 0 7; ", "") + "RETURN";
        Shrinkforge w = shrunk(rows);
        Check.same("ten less three, and six", w.newName(2, 6) + w.newName(2, 7) + w.newName(2, 10) + w.newName(2, 15), "ghm");
    }

    private static void lineIs(String code, int place, String due) {
        Shrinkforge x = shrunk("class", "class 0", "field 0 3", "field 0 4 static", "method 0 0 1 static entry locals 1: " + code + "; RETURN",
                "method 0 6 1: NULL; RETURN", "method 0 7 0 static: NULL; RETURN");
        Check.same("line " + place + " of " + code, x.line(0, place), due);
    }

    /** "the word of the OP; then, of what it tells, behind a blank: (...)". */
    private static void lineForms() {
        lineIs("PUSH -2147483648", 0, "PUSH -2147483648");
        lineIs("PUSH 2147483647", 0, "PUSH 2147483647");
        lineIs("LOAD 1", 0, "LOAD 1");
        lineIs("LOAD 0; STORE 1; NULL", 1, "STORE 1");
        lineIs("LOAD 0; IF0 2; NULL", 1, "IF0 2");
        lineIs("LOAD 0; PRINT; JUMP 0; NULL", 2, "JUMP 0");
        String[] words = {"POP", "DUP", "SWAP", "ADD", "SUB", "MUL", "DIV", "REM", "LESS", "SAME", "NEG", "NEWBY", "PRINT"};
        for (String word : words) {
            lineIs("LOAD 0; LOAD 0; LOAD 0; DUP; " + word + "; NULL", 4, word);
        }
        lineIs("LOAD 0; LOAD 0; THROW; NULL", 2, "THROW");
        lineIs("NULL", 0, "NULL");
        lineIs("NULL", 1, "RETURN");
        lineIs("NULL", 2, "");
        lineIs("NEW 1", 0, "NEW a");
        lineIs("NEW 0", 0, "NEW C0");
        lineIs("NULL; CAST 1", 1, "CAST a");
        lineIs("NULL; ISA 1", 1, "ISA a");
        lineIs("NULL; GET 1 3", 1, "GET a.a");
        lineIs("NULL; GET 0 3", 1, "GET C0.a");
        lineIs("SGET 1 4", 0, "SGET a.a");
        lineIs("NULL; NULL; PUT 1 3; NULL; GET 0 3", 2, "PUT a.a");
        lineIs("NULL; SPUT 1 4; SGET 0 4", 1, "SPUT a.a");
        lineIs("NULL; NULL; PUT 1 3; NULL", 2, "DROP a");
        lineIs("NULL; SPUT 1 4; NULL", 1, "SDROP a");
        lineIs("NEW 1; LOAD 0; CALL 1 25", 2, "CALL a.a/1");
        lineIs("NEW 1; LOAD 0; DCALL 0 25", 2, "DCALL C0.a/1");
        lineIs("SCALL 1 28", 0, "SCALL a.a/0");
        lineIs("LOAD 0; SCALL 1 1", 1, "SCALL a.m0/1");
    }

    /** "or - if there is none or it is not what it must be"; "(whether it is found from there or not), or - without one". */
    private static void linesWithNone() {
        lineIs("NULL; GET 1 4", 1, "GET a.-");
        lineIs("NULL; GET 1 9", 1, "GET a.-");
        lineIs("NULL; GET 1 63", 1, "GET a.-");
        lineIs("SGET 1 3", 0, "SGET a.-");
        lineIs("SGET 0 0", 0, "SGET C0.-");
        lineIs("NULL; NULL; PUT 0 4; NULL", 2, "PUT C0.-");
        lineIs("NULL; NULL; PUT 0 0; NULL", 2, "PUT C0.-");
        lineIs("NULL; SPUT 0 3; NULL", 1, "SPUT C0.-");
        lineIs("NULL; SPUT 0 0; NULL", 1, "SPUT C0.-");
        lineIs("NULL; LOAD 0; CALL 1 25", 2, "CALL a.-/1");
        lineIs("NEW 1; CALL 1 60", 1, "CALL a.-/0");
        lineIs("NULL; NULL; NULL; NULL; DCALL 0 63", 4, "DCALL C0.-/3");
        lineIs("NULL; NULL; SCALL 0 2", 2, "SCALL C0.-/2");
        lineIs("NULL; SCALL 0 25; POP; NULL; LOAD 0; CALL 1 25", 5, "CALL a.a/1");
        Shrinkforge x = shrunk("class", "class", "method 0 0 0 static entry: SCALL 0 4; POP; SCALL 1 4; RETURN",
                "method 0 1 0 static: NULL; RETURN");
        Check.same("a FAMILY that is not found from there", x.line(0, 2), "SCALL a.a/0");
        Check.same("goes wrong", x.runShrunk(0, 0), "!5");
    }

    /** map: KEPT classes, KEPT fields, KEPT methods, each rising; a semicolon behind each class. */
    private static void maps() {
        Shrinkforge x = shrunk("class", "class 0", "interface", "class", "field 1 9 static", "field 0 2 static", "field 0 1 static",
                "method 1 15 3 static: NULL; RETURN", "method 0 4 0 static: NULL; RETURN", "method 0 3 0 static: NULL; RETURN",
                "method 0 0 1 static entry: SCALL 0 12; SCALL 0 16; SGET 1 9; SGET 0 2; SGET 0 1; NULL; NULL; NULL; SCALL 1 63; NULL;"
                        + " ISA 2; RETURN");
        Check.same("map", x.map(), "C0>C0: f2>a f1>b m4/0>a m3/0>b m0/1>m0;C1>a: f9>c m15/3>a;C2>b:;");
        x.field(0, 5, true);
        Check.same("as it was shrunk", x.map(), "C0>C0: f2>a f1>b m4/0>a m3/0>b m0/1>m0;C1>a: f9>c m15/3>a;C2>b:;");
        Check.same("one class", shrunk("class", "method 0 0 0 static entry: NULL; RETURN").map(), "C0>C0: m0/0>m0;");
    }

    /** ofShrunk: "0 KEPT classes, 1 methods, 2 fields, 3 all lines, 4 MADE classes, 5 FAMILIES". */
    private static void counts() {
        Shrinkforge x = shrunk("class", "class 0 named", "interface named", "class", "field 0 0 static", "field 0 1 static",
                "method 0 0 0 static entry: NOP; SCALL 0 4; SGET 0 0; ADD; NEW 1; DCALL 0 8; ADD; RETURN; NOP",
                "method 0 1 0 static: PUSH 1; PUSH 2; ADD; RETURN", "method 0 2 0", "method 1 1 0: NULL; RETURN",
                "method 0 3 0: NULL; RETURN");
        int[] due = {3, 3, 1, 9, 1, 3};
        for (int what = 0; what < 6; what++) {
            Check.same("ofShrunk " + what, x.ofShrunk(what), due[what]);
        }
        Check.same("shrink tells how many", x.shrink(), 3);
        Check.same("lines", x.lines(0) * 100 + x.lines(1) * 10 + x.lines(2), 720);
    }

    /** All 8 classes, 24 methods and 16 fields KEPT. */
    private static void eightClasses() {
        Shrinkforge x = new Shrinkforge();
        for (int c = 0; c < 8; c++) {
            x.cls(c - 1, false);
        }
        for (int f = 0; f < 16; f++) {
            x.field(f / 2, f % 2, true);
        }
        for (int m = 0; m < 24; m++) {
            x.method(m / 3, m % 3 + m / 12 * 3, 0, true, 0);
            int next = m + 1;
            Ops.type(x, m, "SGET " + m % 16 / 2 + " " + m % 2 + "; POP; SCALL " + next % 24 / 3 + " "
                    + (next % 24 % 3 + next % 24 / 12 * 3) * 4 + "; RETURN");
        }
        x.entry(23, true);
        Check.same("24 methods", x.shrink(), 24);
        int[] due = {8, 24, 16, 96, 0, 6};
        for (int what = 0; what < 6; what++) {
            Check.same("ofShrunk " + what, x.ofShrunk(what), due[what]);
        }
        Check.same("the last field", x.newName(2, 15), "p");
        Check.same("the last class with a letter", x.newName(0, 6) + x.newName(0, 7), "gC7");
        Check.same("the last FAMILY", x.newName(1, 22) + x.newName(1, 23), "em5");
        Check.same("again", x.again(), true);
        Check.same("sound", x.isSound(), true);
    }

    /** again: "Returns whether nothing is other by that: KEPT, codes, names"; what is SHRUNK stays. */
    private static void shrunkAgain() {
        String[][] programs = {{"class", "field 0 0", "field 0 1 static", "method 0 0 0 static entry: NEW 0; NULL; PUT 0 0; NULL; SPUT 0 1; SGET 0 0; RETURN"},
            {"class", "class 0", "method 0 0 0 static entry: NEW 1; CALL 0 4; RETURN", "method 0 1 0: NULL; RETURN", "method 1 1 0"},
            {"class", "method 0 0 0 static entry: NULL; NULL; PUT 0 9; SCALL 0 60; RETURN"},
            {"class", "field 0 0", "method 0 0 1 static entry: NEW 0; NULL; PUT 0 0; LOAD 0; IF0 0; NULL; RETURN"},
            {"class", "field 0 0 static", "method 0 0 1 static entry: NULL; SPUT 0 0; LOAD 0; IF0 0; NULL; RETURN"},
            {"class", "field 0 0", "method 0 0 1 static entry: LOAD 0; IF0 5; NEW 0; NULL; PUT 0 0; NULL; RETURN"},
            {"class", "field 0 0 static", "method 0 0 1 static entry: LOAD 0; IF0 4; NULL; SPUT 0 0; NULL; RETURN"},
            {"class", "field 0 0", "method 0 0 0 static entry: " + Ops.pushes(10) + "NEW 0; NULL; PUT 0 0; PUSH 1; PUSH 2; NOP; RETURN"},
            {"class", "field 0 0 static", "method 0 0 0 static entry: " + Ops.pushes(11) + "NULL; SPUT 0 0; PUSH 1; NOP; RETURN"}};
        for (String[] rows : programs) {
            Shrinkforge x = shrunk(rows);
            long before = x.digest();
            Check.same("again", x.again(), true);
            Check.same("nothing changes", x.digest(), before);
            Check.same("sound", x.isSound(), true);
        }
    }

    /** Each shrink() begins with nothing KEPT: what the one before kept is not. */
    private static void shrunkAnew() {
        Shrinkforge x = shrunk("class", "class", "class named", "field 0 0 static", "method 0 0 1 static entry: SGET 0 0; NEW 1; POP;"
                + " NULL; ISA 2; POP; SCALL 0 4; RETURN", "method 0 1 0 static: NULL; RETURN");
        Check.same("all", kept(x, 0) + "|" + kept(x, 1) + "|" + kept(x, 2) + "|" + x.ofShrunk(4), "0 1 2|0 1|0|2");
        x.named(2, false);
        x.cut(0, 8);
        Ops.type(x, 0, "NULL; SPUT 0 0; NULL; RETURN");
        Check.same("shrink", x.shrink(), 1);
        Check.same("none but the ENTRY", kept(x, 0) + "|" + kept(x, 1) + "|" + kept(x, 2) + "|" + x.ofShrunk(4), "0|0||0");
        Check.same("an SDROP now", x.line(0, 1), "SDROP C0");
        Check.same("lines of one that is not KEPT now", x.lines(1), -1);
        Check.same("names", x.map(), "C0>C0: m0/1>m0;");
    }

    /** What is KEPT is found through 24 methods, 8 classes, whatever their order. */
    private static void longChains() {
        Shrinkforge x = new Shrinkforge();
        for (int c = 0; c < 8; c++) {
            x.cls(-1, false);
        }
        for (int m = 0; m < 24; m++) {
            x.method(m / 16, m % 16, 0, true, 0);
            int next = Math.max(m - 1, 0);
            Ops.type(x, m, m == 0 ? "NEW 7; RETURN" : "SCALL " + next / 16 + " " + next % 16 * 4 + "; RETURN");
        }
        x.entry(23, true);
        Check.same("downwards", x.shrink(), 24);
        Check.same("the last one makes C7", kept(x, 0) + "|" + x.ofShrunk(4), "0 1 7|1");
        Shrinkforge y = new Shrinkforge();
        for (int c = 0; c < 8; c++) {
            y.cls(-1, false);
            y.method(c, 1, 0, false, 0);
            Ops.type(y, c, c == 0 ? "NULL; RETURN" : "NEW " + (c - 1) + "; CALL " + (c - 1) + " 4; RETURN");
        }
        y.method(0, 0, 0, true, 0);
        Ops.type(y, 8, "NEW 7; CALL 7 4; RETURN");
        y.entry(8, true);
        Check.same("each one makes the next one's class", y.shrink(), 9);
        Check.same("MADE", y.ofShrunk(4), 8);
        Shrinkforge z = Ops.program("class", "class 0", "class 1", "class 2", "class 3", "class 4", "interface", "class 5",
                "method 7 0 0 static entry: NULL; RETURN");
        z.implement(7, 6);
        z.shrink();
        Check.same("all UPWARD of C7, and its INTERFACE", kept(z, 0), "0 1 2 3 4 5 6 7");
    }
}
