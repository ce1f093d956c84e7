/** A shrinker of whole programs: they are typed, run, shrunk, and run again as they were shrunk. */
public final class Shrinkforge {
    private static final int NONE = -1;
    private static final int REFUSED = -9;
    private static final int MOST_CLASSES = 8;
    private static final int MOST_INTERFACES = 2;
    private static final int MOST_FIELDS = 16;
    private static final int MOST_METHODS = 24;
    private static final int MOST_INSTRUCTIONS = 30;
    private static final int MOST_GUARDS = 2;
    private static final int MOST_ARITY = 3;
    private static final int MOST_LOCALS = 4;
    private static final int MOST_HEIGHT = 12;
    private static final int MOST_GOING_ON = 12;
    private static final int MOST_BEATS = 300;
    private static final int MOST_TOLD_NUMBERS = 60;
    private static final int FIELD_NAMES = 10;
    private static final int METHOD_NAMES = 16;
    private static final int SIGNATURES = 64;
    private static final int LETTERS = 26;
    private static final int TYPED_OPS = 32;
    private static final long DIGEST_START = 7653L;

    private final Program program;
    private final Image image;
    private final Flow flow;
    private final Code foldedCode;
    private final Machine machine;
    private final Auditor auditor;
    private final Report last;
    private final Writer writer;
    private boolean isShrunk;
    private int runs;
    private int shrinks;
    private int knocks;
    private long sum;

    public Shrinkforge() {
        program = new Program(MOST_INSTRUCTIONS);
        image = new Image();
        flow = new Flow();
        foldedCode = new Code(MOST_INSTRUCTIONS);
        machine = new Machine();
        auditor = new Auditor(machine, flow);
        last = new Report();
        writer = new Writer();
    }

    // ---- programs

    public int cls(int above, boolean isInterface) throws IllegalArgumentException, IllegalStateException {
        if (above != NONE) {
            if (isInterface || !has(program.classes, above) || has(program.interfaces, above)) {
                throw new IllegalArgumentException("no such SUPER is allowed");
            }
        }
        if (Integer.bitCount(program.classes) >= MOST_CLASSES) {
            throw new IllegalStateException("there are 8 classes");
        }
        return program.addClass(above, isInterface);
    }

    public int implement(int cls, int other)
            throws IndexOutOfBoundsException, IllegalArgumentException, IllegalStateException {
        needClass(cls);
        needClass(other);
        int own = program.ownInterfaces[cls];
        if (has(program.interfaces, cls) || !has(program.interfaces, other) || has(own, other)) {
            throw new IllegalArgumentException("this class cannot have that as an interface");
        }
        if (Integer.bitCount(own) >= MOST_INTERFACES) {
            throw new IllegalStateException("it has 2 interfaces");
        }
        program.ownInterfaces[cls] = own | 1 << other;
        return Integer.bitCount(program.ownInterfaces[cls]);
    }

    public boolean named(int cls, boolean is) throws IndexOutOfBoundsException {
        needClass(cls);
        boolean was = has(program.namedClasses, cls);
        program.namedClasses = with(program.namedClasses, cls, is);
        return was;
    }

    public int field(int cls, int name, boolean isStatic)
            throws IndexOutOfBoundsException, IllegalArgumentException, IllegalStateException {
        needClass(cls);
        if (name < 0 || name >= FIELD_NAMES || has(program.interfaces, cls) || program.fieldIn(cls, name) != NONE) {
            throw new IllegalArgumentException("no such field may come there");
        }
        if (Integer.bitCount(program.fields) >= MOST_FIELDS) {
            throw new IllegalStateException("there are 16 fields");
        }
        return program.addField(cls, name, isStatic);
    }

    public int method(int cls, int name, int arity, boolean isStatic, int locals)
            throws IndexOutOfBoundsException, IllegalArgumentException, IllegalStateException {
        needClass(cls);
        if (name < 0 || name >= METHOD_NAMES || arity < 0 || arity > MOST_ARITY
                || locals < 0 || locals > MOST_LOCALS) {
            throw new IllegalArgumentException("no such name, arity or locals");
        }
        if (program.methodIn(cls, name * 4 + arity) != NONE) {
            throw new IllegalArgumentException("the class has one of that signature");
        }
        if (Integer.bitCount(program.methods) >= MOST_METHODS) {
            throw new IllegalStateException("there are 24 methods");
        }
        return program.addMethod(cls, name * 4 + arity, isStatic, locals);
    }

    public int code(int method, int op, int a, int b)
            throws IndexOutOfBoundsException, IllegalArgumentException, IllegalStateException {
        needMethod(method);
        needOp(op, b);
        Code typed = program.codes[method];
        if (typed.size >= MOST_INSTRUCTIONS) {
            throw new IllegalStateException("it has 30 instructions");
        }
        typed.append(op, Op.needsA(op) ? a : 0, Op.needsB(op) ? b : 0);
        return typed.size;
    }

    public int change(int method, int place, int op, int a, int b)
            throws IndexOutOfBoundsException, IllegalArgumentException {
        needPlace(method, place);
        needOp(op, b);
        Code typed = program.codes[method];
        int before = typed.opAt(place);
        typed.put(place, op, a, b);
        return before;
    }

    public int cut(int method, int many) throws IndexOutOfBoundsException, IllegalArgumentException {
        needMethod(method);
        Code typed = program.codes[method];
        if (many < 0 || many > typed.size) {
            throw new IllegalArgumentException("it does not have so many");
        }
        typed.keepFirst(typed.size - many);
        return typed.size;
    }

    public int guard(int method, int from, int to, int handler)
            throws IndexOutOfBoundsException, IllegalArgumentException, IllegalStateException {
        needMethod(method);
        if (!mayGuard(from) || !mayGuard(to) || !mayGuard(handler)) {
            throw new IllegalArgumentException("a guard tells places 0 to 30");
        }
        Code typed = program.codes[method];
        if (typed.guards >= MOST_GUARDS) {
            throw new IllegalStateException("it has 2 guards");
        }
        typed.addGuard(from, to, handler);
        return typed.guards;
    }

    public boolean entry(int method, boolean is) throws IndexOutOfBoundsException, IllegalArgumentException {
        needMethod(method);
        if (!has(program.staticMethods, method) || program.arityOf(method) > 1) {
            throw new IllegalArgumentException("this one can be no entry");
        }
        boolean was = has(program.entries, method);
        program.entries = with(program.entries, method, is);
        return was;
    }

    public int sample(int k) throws IllegalArgumentException {
        needWhat(k, 3);
        Samples.type(k, program);
        return Integer.bitCount(program.methods);
    }

    public int wipe() {
        int methods = Integer.bitCount(program.methods);
        program.clear();
        isShrunk = false;
        return methods;
    }

    // ---- what is asked of programs

    public int ofClass(int cls, int what) throws IndexOutOfBoundsException, IllegalArgumentException {
        needClass(cls);
        needWhat(what, 5);
        return program.tellClass(cls, what);
    }

    public int ofField(int field, int what) throws IndexOutOfBoundsException, IllegalArgumentException {
        if (!has(program.fields, field)) {
            throw new IndexOutOfBoundsException("there is no such field");
        }
        needWhat(what, 2);
        return program.tellField(field, what);
    }

    public int ofMethod(int method, int what) throws IndexOutOfBoundsException, IllegalArgumentException {
        needMethod(method);
        needWhat(what, 7);
        return program.tellMethod(method, what);
    }

    public int instruction(int method, int place, int what)
            throws IndexOutOfBoundsException, IllegalArgumentException {
        needPlace(method, place);
        needWhat(what, 2);
        return program.codes[method].tell(place, what);
    }

    public boolean isA(int cls, int other) throws IndexOutOfBoundsException {
        needClass(cls);
        needClass(other);
        return has(program.kinds(cls), other);
    }

    public int findMethod(int cls, int signature) throws IndexOutOfBoundsException, IllegalArgumentException {
        needClass(cls);
        if (signature < 0 || signature >= SIGNATURES) {
            throw new IllegalArgumentException("a signature is 0 to 63");
        }
        return program.firstMethod(cls, signature);
    }

    public int findField(int cls, int name) throws IndexOutOfBoundsException, IllegalArgumentException {
        needClass(cls);
        if (name < 0 || name >= FIELD_NAMES) {
            throw new IllegalArgumentException("the name of a field is 0 to 9");
        }
        return program.firstField(cls, name);
    }

    public boolean isRight(int method) throws IndexOutOfBoundsException {
        needMethod(method);
        return flow.suits(program, method);
    }

    public boolean areRight() {
        return flow.allSuit(program);
    }

    public boolean isLive(int method, int place) throws IndexOutOfBoundsException {
        needPlace(method, place);
        return has(flow.livePlaces(program.codes[method]), place);
    }

    public int folded(int method) throws IndexOutOfBoundsException {
        needMethod(method);
        return foldOf(method) ? foldedCode.size : NONE;
    }

    public int ofFolded(int method, int place, int what) throws IndexOutOfBoundsException, IllegalArgumentException {
        needMethod(method);
        if (!foldOf(method) || !foldedCode.hasPlace(place)) {
            throw new IndexOutOfBoundsException("there is no such place in folded code");
        }
        needWhat(what, 3);
        return foldedCode.tell(place, what);
    }

    // ---- shrinking

    public int shrink() {
        if (!flow.allSuit(program)) {
            return REFUSED;
        }
        image.take(program, flow);
        isShrunk = true;
        shrinks++;
        return Integer.bitCount(image.small.methods);
    }

    public boolean again() throws IllegalStateException {
        needShrunk();
        return auditor.staysSame(image);
    }

    public boolean isKept(int what, int number) throws IllegalStateException, IllegalArgumentException {
        needShrunk();
        needWhat(what, 2);
        return has(image.kept(what), number);
    }

    public String newName(int what, int number) throws IllegalStateException, IllegalArgumentException {
        needShrunk();
        needWhat(what, 2);
        if (!has(image.kept(what), number)) {
            return "";
        }
        return writer.nameOf(image, what, number);
    }

    public int lines(int method) throws IllegalStateException {
        needShrunk();
        return image.lineCount(method);
    }

    public String line(int method, int place) throws IllegalStateException {
        needShrunk();
        if (place < 0 || place >= image.lineCount(method)) {
            return "";
        }
        return writer.lineOf(image, method, place);
    }

    public int origin(int method, int place) throws IllegalStateException {
        needShrunk();
        if (place < 0 || place >= image.lineCount(method)) {
            return NONE;
        }
        return image.small.codes[method].originAt(place);
    }

    public String map() throws IllegalStateException {
        needShrunk();
        return writer.mapOf(image);
    }

    public int called(int cls, int letter, int arity) throws IllegalStateException, IllegalArgumentException {
        needShrunk();
        if (letter < 0 || letter >= LETTERS || arity < 0 || arity > MOST_ARITY) {
            throw new IllegalArgumentException("no such letter or arity");
        }
        return image.methodBehind(cls, letter, arity);
    }

    public int ofShrunk(int what) throws IllegalStateException, IllegalArgumentException {
        needShrunk();
        needWhat(what, 5);
        return image.count(what);
    }

    // ---- runs

    public String run(int method, int told)
            throws IndexOutOfBoundsException, IllegalArgumentException, IllegalStateException {
        needMethod(method);
        if (!has(program.entries, method)) {
            throw new IllegalArgumentException("it is no entry");
        }
        if (!flow.allSuit(program)) {
            throw new IllegalStateException("the program is not right");
        }
        machine.perform(program, method, told, last);
        runs++;
        writer.tellRun(last, program);
        return last.resultText;
    }

    public String runShrunk(int method, int told) throws IllegalStateException, IllegalArgumentException {
        needShrunk();
        needShrunkEntry(method);
        machine.perform(image.small, method, told, last);
        runs++;
        writer.tellShrunkRun(last, image);
        return last.resultText;
    }

    public boolean areAlike(int method, int told) throws IllegalStateException, IllegalArgumentException {
        needShrunk();
        needShrunkEntry(method);
        return auditor.runAlike(image, method, told);
    }

    public String out() {
        return last.outText;
    }

    public String trace() {
        return last.traceText;
    }

    public String raw() {
        return last.rawText;
    }

    public String result() {
        return last.resultText;
    }

    public int ofRun(int what) throws IllegalArgumentException {
        needWhat(what, 3);
        return last.tell(what);
    }

    public int begun(int method) {
        return last.startsOf(method);
    }

    // ---- the house

    public int house(int what) throws IllegalArgumentException {
        needWhat(what, 7);
        return tellHouse(what);
    }

    public int knock() {
        knocks++;
        return knocks;
    }

    public boolean isSound() {
        return !isShrunk || auditor.staysSame(image) && auditor.holds(image);
    }

    public long digest() {
        sum = DIGEST_START;
        for (int what = 0; what <= 7; what++) {
            mix(tellHouse(what));
        }
        mixClassesAndFields();
        mixMethods();
        if (isShrunk) {
            mixShrunk();
        }
        mixLastRun();
        mix(!isShrunk || auditor.staysSame(image) && auditor.holds(image) ? 1 : 0);
        return sum;
    }

    private void mix(int value) {
        sum = sum * 31 + value;
    }

    private void mixText(String text) {
        for (int at = 0; at < text.length(); at++) {
            mix(text.charAt(at));
        }
    }

    private void mixWritten() {
        StringBuilder text = writer.text;
        for (int at = 0; at < text.length(); at++) {
            mix(text.charAt(at));
        }
    }

    private void mixClassesAndFields() {
        for (int cls = 0; cls < MOST_CLASSES; cls++) {
            for (int what = 0; has(program.classes, cls) && what <= 5; what++) {
                mix(program.tellClass(cls, what));
            }
        }
        for (int field = 0; field < MOST_FIELDS; field++) {
            for (int what = 0; has(program.fields, field) && what <= 2; what++) {
                mix(program.tellField(field, what));
            }
        }
    }

    private void mixMethods() {
        for (int method = 0; method < MOST_METHODS; method++) {
            if (has(program.methods, method)) {
                for (int what = 0; what <= 7; what++) {
                    mix(program.tellMethod(method, what));
                }
                boolean isFolded = foldOf(method);
                mix(isFolded ? 1 : 0);
                mix(isFolded ? foldedCode.size : NONE);
                mixLive(program.codes[method]);
            }
        }
    }

    private void mixLive(Code typed) {
        int live = flow.livePlaces(typed);
        for (int place = 0; place < typed.size; place++) {
            mix(has(live, place) ? 1 : 0);
        }
    }

    private void mixShrunk() {
        writer.writeMap(image);
        mixWritten();
        for (int what = 0; what <= 5; what++) {
            mix(image.count(what));
        }
        for (int method = 0; method < MOST_METHODS; method++) {
            int count = image.lineCount(method);
            mix(count);
            for (int place = 0; place < count; place++) {
                writer.writeLine(image, method, place);
                mixWritten();
            }
        }
    }

    private void mixLastRun() {
        mixText(last.resultText);
        mixText(last.outText);
        mixText(last.traceText);
        mixText(last.rawText);
        for (int what = 0; what <= 3; what++) {
            mix(last.tell(what));
        }
        for (int method = 0; method < MOST_METHODS; method++) {
            mix(last.startsOf(method));
        }
    }

    private int tellHouse(int what) {
        switch (what) {
            case 0:
                return Integer.bitCount(program.classes);
            case 1:
                return Integer.bitCount(program.fields);
            case 2:
                return Integer.bitCount(program.methods);
            case 3:
                return program.instructions();
            case 4:
                return isShrunk ? 1 : 0;
            case 5:
                return runs;
            case 6:
                return shrinks;
            default:
                return knocks;
        }
    }

    /** Whether the method is RIGHT; its FOLDED code stands in foldedCode then. */
    private boolean foldOf(int method) {
        if (!flow.suits(program, method)) {
            return false;
        }
        foldedCode.become(program.codes[method]);
        flow.fold(foldedCode);
        return true;
    }

    private void needClass(int cls) {
        if (!has(program.classes, cls)) {
            throw new IndexOutOfBoundsException("there is no such class");
        }
    }

    private void needMethod(int method) {
        if (!has(program.methods, method)) {
            throw new IndexOutOfBoundsException("there is no such method");
        }
    }

    private void needPlace(int method, int place) {
        if (!has(program.methods, method) || !program.codes[method].hasPlace(place)) {
            throw new IndexOutOfBoundsException("there is no such place");
        }
    }

    private void needOp(int op, int b) {
        if (op < 0 || op >= TYPED_OPS || b < 0 || b >= SIGNATURES) {
            throw new IllegalArgumentException("op is 0 to 31, b is 0 to 63");
        }
    }

    private void needWhat(int what, int most) {
        if (what < 0 || what > most) {
            throw new IllegalArgumentException("that is not asked here");
        }
    }

    private void needShrunk() {
        if (!isShrunk) {
            throw new IllegalStateException("nothing was shrunk");
        }
    }

    private void needShrunkEntry(int method) {
        if (!has(image.small.entries, method)) {
            throw new IllegalArgumentException("it is no entry of the shrunk program");
        }
    }

    private static boolean mayGuard(int place) {
        return place >= 0 && place <= MOST_INSTRUCTIONS;
    }

    // Sets of classes, fields, methods and places are kept as the bits of an int: none has more than 30.

    private static boolean has(int set, int number) {
        return number >= 0 && number < 32 && (set >>> number & 1) != 0;
    }

    private static int with(int set, int number, boolean is) {
        if (number < 0 || number >= 32) {
            return set;
        }
        return is ? set | 1 << number : set & ~(1 << number);
    }

    /** What is known of the OPs. DROP and SDROP stand in SHRUNK code alone, BEGIN where a call was put in. */
    private static final class Op {
        private static final int PUSH = 0;
        private static final int LOAD = 1;
        private static final int STORE = 2;
        private static final int POP = 3;
        private static final int DUP = 4;
        private static final int SWAP = 5;
        private static final int ADD = 6;
        private static final int SUB = 7;
        private static final int MUL = 8;
        private static final int DIV = 9;
        private static final int REM = 10;
        private static final int LESS = 11;
        private static final int SAME = 12;
        private static final int NEG = 13;
        private static final int JUMP = 14;
        private static final int IF0 = 15;
        private static final int NULL = 16;
        private static final int NEW = 17;
        private static final int NEWBY = 18;
        private static final int GET = 19;
        private static final int PUT = 20;
        private static final int SGET = 21;
        private static final int SPUT = 22;
        private static final int CALL = 23;
        private static final int DCALL = 24;
        private static final int SCALL = 25;
        private static final int CAST = 26;
        private static final int ISA = 27;
        private static final int THROW = 28;
        private static final int RETURN = 29;
        private static final int PRINT = 30;
        private static final int NOP = 31;
        private static final int DROP = 32;
        private static final int SDROP = 33;
        private static final int BEGIN = 34;

        private static final int TELL_NUMBER = 1 << PUSH | 1 << LOAD | 1 << STORE | 1 << JUMP | 1 << IF0;
        private static final int TELL_MEMBER = 1 << GET | 1 << PUT | 1 << SGET | 1 << SPUT
                | 1 << CALL | 1 << DCALL | 1 << SCALL;
        private static final int TELL_CLASS = TELL_MEMBER | 1 << NEW | 1 << CAST | 1 << ISA;
        private static final int TELL_A = TELL_NUMBER | TELL_CLASS;

        /** By OP; of calls without what the ARITY tells. */
        private static final int[] TAKES = {
            0, 0, 1, 1, 1, 2, 2, 2, 2, 2, 2, 2, 2, 1, 0, 1, 0, 0, 1, 1, 2, 0, 1, 1, 1, 0, 1, 1, 1, 1, 1, 0, 2, 1, 0};
        private static final int[] PUTS = {
            1, 1, 0, 0, 2, 2, 1, 1, 1, 1, 1, 1, 1, 1, 0, 0, 1, 1, 1, 1, 0, 1, 0, 1, 1, 1, 1, 1, 0, 0, 0, 0, 0, 0, 0};

        private Op() {
        }

        private static boolean tellsNumber(int op) {
            return has(TELL_NUMBER, op);
        }

        private static boolean tellsPlace(int op) {
            return op == JUMP || op == IF0;
        }

        private static boolean tellsVariable(int op) {
            return op == LOAD || op == STORE;
        }

        private static boolean tellsClass(int op) {
            return op == DROP || op == SDROP || has(TELL_CLASS, op);
        }

        private static boolean tellsField(int op) {
            return op >= GET && op <= SPUT;
        }

        private static boolean isCall(int op) {
            return op == CALL || op == DCALL || op == SCALL;
        }

        private static boolean needsA(int op) {
            return has(TELL_A, op);
        }

        private static boolean needsB(int op) {
            return has(TELL_MEMBER, op);
        }

        private static boolean reckons(int op) {
            return op >= ADD && op <= SAME;
        }

        private static boolean divides(int op) {
            return op == DIV || op == REM;
        }

        /** Whether the next place can be come to from this one. */
        private static boolean goesOn(int op) {
            return op != JUMP && op != THROW && op != RETURN;
        }

        private static int takes(int op, int b) {
            if (op < 0 || op >= TAKES.length) {
                return 0;
            }
            return isCall(op) ? TAKES[op] + (b & 3) : TAKES[op];
        }

        private static int puts(int op) {
            return op < 0 || op >= PUTS.length ? 0 : PUTS[op];
        }

        /** What ADD to SAME come to; y is not 0 where it divides. */
        private static int reckon(int op, int x, int y) {
            switch (op) {
                case ADD:
                    return x + y;
                case SUB:
                    return x - y;
                case MUL:
                    return x * y;
                case DIV:
                    return y == 0 ? 0 : x / y;
                case REM:
                    return y == 0 ? 0 : x - x / y * y;
                case LESS:
                    return x < y ? 1 : 0;
                default:
                    return x == y ? 1 : 0;
            }
        }

        private static String word(int op) {
            switch (op) {
                case PUSH: return "PUSH";
                case LOAD: return "LOAD";
                case STORE: return "STORE";
                case POP: return "POP";
                case DUP: return "DUP";
                case SWAP: return "SWAP";
                case ADD: return "ADD";
                case SUB: return "SUB";
                case MUL: return "MUL";
                case DIV: return "DIV";
                case REM: return "REM";
                case LESS: return "LESS";
                case SAME: return "SAME";
                case NEG: return "NEG";
                case JUMP: return "JUMP";
                case IF0: return "IF0";
                case NULL: return "NULL";
                case NEW: return "NEW";
                case NEWBY: return "NEWBY";
                case GET: return "GET";
                case PUT: return "PUT";
                case SGET: return "SGET";
                case SPUT: return "SPUT";
                case CALL: return "CALL";
                case DCALL: return "DCALL";
                case SCALL: return "SCALL";
                case CAST: return "CAST";
                case ISA: return "ISA";
                case THROW: return "THROW";
                case RETURN: return "RETURN";
                case PRINT: return "PRINT";
                case NOP: return "NOP";
                case DROP: return "DROP";
                default: return "SDROP";
            }
        }
    }

    /** A row of INSTRUCTIONS with its GUARDS. */
    private static final class Code {
        private final int[] ops;
        private final int[] as;
        private final int[] bs;
        private final int[] origins;
        private final int[] froms;
        private final int[] tos;
        private final int[] handlers;
        private int size;
        private int guards;

        private Code(int room) {
            ops = new int[room];
            as = new int[room];
            bs = new int[room];
            origins = new int[room];
            froms = new int[MOST_GUARDS];
            tos = new int[MOST_GUARDS];
            handlers = new int[MOST_GUARDS];
        }

        private boolean hasPlace(int place) {
            return place >= 0 && place < size;
        }

        private int opAt(int place) {
            return place >= 0 && place < size ? ops[place] : Op.NOP;
        }

        private int aAt(int place) {
            return place >= 0 && place < size ? as[place] : 0;
        }

        private int bAt(int place) {
            return place >= 0 && place < size ? bs[place] : 0;
        }

        private int originAt(int place) {
            return place >= 0 && place < size ? origins[place] : NONE;
        }

        private int tell(int place, int what) {
            switch (what) {
                case 0:
                    return opAt(place);
                case 1:
                    return aAt(place);
                case 2:
                    return bAt(place);
                default:
                    return originAt(place);
            }
        }

        private void clear() {
            keepFirst(0);
        }

        private void keepFirst(int many) {
            size = many;
            guards = 0;
        }

        /** Another INSTRUCTION comes behind the others, with the numbers as they are. */
        private void append(int op, int a, int b) {
            if (size < ops.length) {
                ops[size] = op;
                as[size] = a;
                bs[size] = b;
                origins[size] = size;
                size++;
            }
        }

        /** Another INSTRUCTION stands there, as it is typed: what it does not need is 0. */
        private void put(int place, int op, int a, int b) {
            if (hasPlace(place)) {
                ops[place] = op;
                as[place] = Op.needsA(op) ? a : 0;
                bs[place] = Op.needsB(op) ? b : 0;
            }
        }

        /** Another OP without b stands there, and the ORIGIN stays. */
        private void turnInto(int place, int op, int a) {
            if (place >= 0 && place < size) {
                ops[place] = op;
                as[place] = a;
                bs[place] = 0;
            }
        }

        private void addGuard(int from, int to, int handler) {
            if (guards < MOST_GUARDS) {
                froms[guards] = from;
                tos[guards] = to;
                handlers[guards] = handler;
                guards++;
            }
        }

        private boolean isGuarded(int guard, int place) {
            return guard >= 0 && guard < guards && froms[guard] <= place && place < tos[guard];
        }

        /** The HANDLER of the first GUARD that has the place, or NONE. */
        private int handlerFor(int place) {
            for (int guard = 0; guard < guards; guard++) {
                if (isGuarded(guard, place)) {
                    return handlers[guard];
                }
            }
            return NONE;
        }

        private boolean isGoneTo(int place) {
            for (int at = 0; at < size; at++) {
                if (Op.tellsPlace(ops[at]) && as[at] == place) {
                    return true;
                }
            }
            for (int guard = 0; guard < guards; guard++) {
                if (handlers[guard] == place) {
                    return true;
                }
            }
            return false;
        }

        private void takeOut(int place) {
            if (!hasPlace(place)) {
                return;
            }
            for (int at = place; at + 1 < size; at++) {
                ops[at] = ops[at + 1];
                as[at] = as[at + 1];
                bs[at] = bs[at + 1];
                origins[at] = origins[at + 1];
            }
            size--;
            for (int at = 0; at < size; at++) {
                if (Op.tellsPlace(ops[at]) && as[at] > place) {
                    as[at]--;
                }
            }
            takeOutOfGuards(place);
        }

        private void takeOutOfGuards(int place) {
            int left = 0;
            for (int guard = 0; guard < guards; guard++) {
                int from = froms[guard] > place ? froms[guard] - 1 : froms[guard];
                int to = tos[guard] > place ? tos[guard] - 1 : tos[guard];
                int handler = handlers[guard] > place ? handlers[guard] - 1 : handlers[guard];
                if (from != to) {
                    froms[left] = from;
                    tos[left] = to;
                    handlers[left] = handler;
                    left++;
                }
            }
            guards = left;
        }

        private void become(Code other) {
            if (other.size > ops.length) {
                return;
            }
            size = other.size;
            System.arraycopy(other.ops, 0, ops, 0, size);
            System.arraycopy(other.as, 0, as, 0, size);
            System.arraycopy(other.bs, 0, bs, 0, size);
            System.arraycopy(other.origins, 0, origins, 0, size);
            guards = other.guards;
            System.arraycopy(other.froms, 0, froms, 0, guards);
            System.arraycopy(other.tos, 0, tos, 0, guards);
            System.arraycopy(other.handlers, 0, handlers, 0, guards);
        }

        private boolean isLike(Code other) {
            if (size != other.size || guards != other.guards) {
                return false;
            }
            for (int at = 0; at < size; at++) {
                if (ops[at] != other.ops[at] || as[at] != other.as[at] || bs[at] != other.bs[at]) {
                    return false;
                }
            }
            for (int guard = 0; guard < guards; guard++) {
                if (froms[guard] != other.froms[guard] || tos[guard] != other.tos[guard]
                        || handlers[guard] != other.handlers[guard]) {
                    return false;
                }
            }
            return true;
        }
    }

    /** Classes, fields and methods by their numbers; a SHRUNK one has gaps where something is not KEPT. */
    private static final class Program {
        private final int[] above;
        private final int[] ownInterfaces;
        private final int[] fieldClass;
        private final int[] fieldName;
        private final int[] methodClass;
        private final int[] signatures;
        private final int[] locals;
        private final Code[] codes;
        private int classes;
        private int interfaces;
        private int namedClasses;
        private int fields;
        private int staticFields;
        private int methods;
        private int staticMethods;
        private int entries;

        private Program(int room) {
            above = new int[MOST_CLASSES];
            ownInterfaces = new int[MOST_CLASSES];
            fieldClass = new int[MOST_FIELDS];
            fieldName = new int[MOST_FIELDS];
            methodClass = new int[MOST_METHODS];
            signatures = new int[MOST_METHODS];
            locals = new int[MOST_METHODS];
            codes = new Code[MOST_METHODS];
            for (int method = 0; method < MOST_METHODS; method++) {
                codes[method] = new Code(room);
            }
        }

        private void clear() {
            classes = 0;
            interfaces = 0;
            namedClasses = 0;
            fields = 0;
            staticFields = 0;
            methods = 0;
            staticMethods = 0;
            entries = 0;
        }

        private int addClass(int over, boolean isInterface) {
            int number = Integer.bitCount(classes);
            if (number >= MOST_CLASSES) {
                return NONE;
            }
            above[number] = over;
            ownInterfaces[number] = 0;
            classes |= 1 << number;
            interfaces = with(interfaces, number, isInterface);
            return number;
        }

        private int addField(int cls, int name, boolean isStatic) {
            int number = Integer.bitCount(fields);
            if (number >= MOST_FIELDS) {
                return NONE;
            }
            fieldClass[number] = cls;
            fieldName[number] = name;
            fields |= 1 << number;
            staticFields = with(staticFields, number, isStatic);
            return number;
        }

        private int addMethod(int cls, int signature, boolean isStatic, int many) {
            int number = Integer.bitCount(methods);
            if (number >= MOST_METHODS) {
                return NONE;
            }
            methodClass[number] = cls;
            signatures[number] = signature;
            locals[number] = many;
            codes[number].clear();
            methods |= 1 << number;
            staticMethods = with(staticMethods, number, isStatic);
            return number;
        }

        private int arityOf(int method) {
            return signatures[method] & 3;
        }

        private int nameOf(int method) {
            return signatures[method] >> 2;
        }

        /** How many variables it has. */
        private int variablesOf(int method) {
            int object = has(staticMethods, method) ? 0 : 1;
            return object + arityOf(method) + locals[method];
        }

        private boolean hasCode(int method) {
            return has(methods, method) && codes[method].size > 0;
        }

        private int instructions() {
            int count = 0;
            for (int method = 0; method < MOST_METHODS; method++) {
                if (has(methods, method)) {
                    count += codes[method].size;
                }
            }
            return count;
        }

        /** The set of all classes that it IS A. */
        private int kinds(int cls) {
            int kinds = 0;
            int at = cls;
            for (int up = 0; up < MOST_CLASSES && at >= 0 && at < above.length && (classes >>> at & 1) != 0; up++) {
                kinds |= 1 << at | ownInterfaces[at];
                at = above[at];
            }
            return kinds;
        }

        private int methodIn(int cls, int signature) {
            for (int method = 0; method < MOST_METHODS; method++) {
                if ((methods >>> method & 1) != 0 && methodClass[method] == cls && signatures[method] == signature) {
                    return method;
                }
            }
            return NONE;
        }

        private int firstMethod(int cls, int signature) {
            int at = cls;
            for (int up = 0; up < MOST_CLASSES && has(classes, at); up++) {
                int method = methodIn(at, signature);
                if (method != NONE) {
                    return method;
                }
                at = above[at];
            }
            return NONE;
        }

        private int fieldIn(int cls, int name) {
            for (int field = 0; field < MOST_FIELDS; field++) {
                if ((fields >>> field & 1) != 0 && fieldClass[field] == cls && fieldName[field] == name) {
                    return field;
                }
            }
            return NONE;
        }

        private int firstField(int cls, int name) {
            int at = cls;
            for (int up = 0; up < MOST_CLASSES && has(classes, at); up++) {
                int field = fieldIn(at, name);
                if (field != NONE) {
                    return field;
                }
                at = above[at];
            }
            return NONE;
        }

        /** Whether the field that GET, PUT, SGET or SPUT found first is there, and what it must be. */
        private boolean isFitting(int op, int field) {
            boolean wantsStatic = op == Op.SGET || op == Op.SPUT;
            return has(fields, field) && has(staticFields, field) == wantsStatic;
        }

        private int tellClass(int cls, int what) {
            switch (what) {
                case 0:
                    return above[cls];
                case 1:
                    return has(interfaces, cls) ? 1 : 0;
                case 2:
                    return has(namedClasses, cls) ? 1 : 0;
                case 3:
                    return ownInterfaces[cls];
                case 4:
                    return countIn(methodClass, methods, cls);
                default:
                    return countIn(fieldClass, fields, cls);
            }
        }

        private static int countIn(int[] classOf, int there, int cls) {
            int count = 0;
            for (int number = 0; number < classOf.length; number++) {
                if (has(there, number) && classOf[number] == cls) {
                    count++;
                }
            }
            return count;
        }

        private int tellField(int field, int what) {
            switch (what) {
                case 0:
                    return fieldClass[field];
                case 1:
                    return fieldName[field];
                default:
                    return has(staticFields, field) ? 1 : 0;
            }
        }

        private int tellMethod(int method, int what) {
            switch (what) {
                case 0:
                    return methodClass[method];
                case 1:
                    return nameOf(method);
                case 2:
                    return arityOf(method);
                case 3:
                    return has(staticMethods, method) ? 1 : 0;
                case 4:
                    return locals[method];
                case 5:
                    return codes[method].size;
                case 6:
                    return codes[method].guards;
                default:
                    return has(entries, method) ? 1 : 0;
            }
        }

        private void become(Program other) {
            becomeWithoutCode(other);
            for (int method = 0; method < MOST_METHODS; method++) {
                if (has(methods, method)) {
                    codes[method].become(other.codes[method]);
                }
            }
        }

        private void becomeWithoutCode(Program other) {
            System.arraycopy(other.above, 0, above, 0, MOST_CLASSES);
            System.arraycopy(other.ownInterfaces, 0, ownInterfaces, 0, MOST_CLASSES);
            System.arraycopy(other.fieldClass, 0, fieldClass, 0, MOST_FIELDS);
            System.arraycopy(other.fieldName, 0, fieldName, 0, MOST_FIELDS);
            System.arraycopy(other.methodClass, 0, methodClass, 0, MOST_METHODS);
            System.arraycopy(other.signatures, 0, signatures, 0, MOST_METHODS);
            System.arraycopy(other.locals, 0, locals, 0, MOST_METHODS);
            classes = other.classes;
            interfaces = other.interfaces;
            namedClasses = other.namedClasses;
            fields = other.fields;
            staticFields = other.staticFields;
            methods = other.methods;
            staticMethods = other.staticMethods;
            entries = other.entries;
        }

        private void keepOnly(int keptClasses, int keptMethods, int keptFields) {
            classes &= keptClasses;
            interfaces &= keptClasses;
            namedClasses &= keptClasses;
            methods &= keptMethods;
            staticMethods &= keptMethods;
            entries &= keptMethods;
            fields &= keptFields;
            staticFields &= keptFields;
        }
    }

    /** The four SAMPLES, each INSTRUCTION as its method, OP, a and b. */
    private static final class Samples {
        private static final int[] ANIMALS = {
            0, Op.LOAD, 0, 0, 0, Op.IF0, 4, 0, 0, Op.NEW, 0, 0, 0, Op.JUMP, 5, 0,
            0, Op.NEW, 1, 0, 0, Op.CALL, 0, 4, 0, Op.RETURN, 0, 0,
            1, Op.PUSH, 1, 0, 1, Op.RETURN, 0, 0,
            2, Op.PUSH, 2, 0, 2, Op.RETURN, 0, 0,
            3, Op.PUSH, 3, 0, 3, Op.RETURN, 0, 0};
        private static final int[] COUNTING = {
            0, Op.PUSH, 2, 0, 0, Op.PUSH, 3, 0, 0, Op.ADD, 0, 0, 0, Op.STORE, 1, 0,
            0, Op.LOAD, 1, 0, 0, Op.IF0, 13, 0, 0, Op.LOAD, 1, 0, 0, Op.PRINT, 0, 0,
            0, Op.LOAD, 1, 0, 0, Op.PUSH, -1, 0, 0, Op.ADD, 0, 0, 0, Op.STORE, 1, 0,
            0, Op.JUMP, 4, 0, 0, Op.PUSH, 0, 0, 0, Op.IF0, 17, 0, 0, Op.PUSH, 9, 0,
            0, Op.PRINT, 0, 0, 0, Op.LOAD, 0, 0, 0, Op.RETURN, 0, 0};
        private static final int[] DIVIDING = {
            0, Op.LOAD, 0, 0, 0, Op.SCALL, 0, 5, 0, Op.RETURN, 0, 0, 0, Op.PRINT, 0, 0,
            0, Op.PUSH, -1, 0, 0, Op.RETURN, 0, 0,
            1, Op.PUSH, 10, 0, 1, Op.LOAD, 0, 0, 1, Op.DIV, 0, 0, 1, Op.RETURN, 0, 0,
            2, Op.NOP, 0, 0, 2, Op.LOAD, 0, 0, 2, Op.SCALL, 0, 5, 2, Op.RETURN, 0, 0};
        private static final int[] MAKING = {
            0, Op.LOAD, 0, 0, 0, Op.NEWBY, 0, 0, 0, Op.STORE, 1, 0, 0, Op.LOAD, 1, 0,
            0, Op.PUSH, 7, 0, 0, Op.PUT, 0, 0, 0, Op.LOAD, 1, 0, 0, Op.PUSH, 4, 0,
            0, Op.PUT, 0, 1, 0, Op.PUSH, 2, 0, 0, Op.SPUT, 0, 2, 0, Op.LOAD, 1, 0,
            0, Op.GET, 0, 0, 0, Op.LOAD, 1, 0, 0, Op.PUSH, 5, 0, 0, Op.PUSH, 6, 0,
            0, Op.CALL, 2, 6, 0, Op.SUB, 0, 0, 0, Op.RETURN, 0, 0,
            2, Op.LOAD, 1, 0, 2, Op.LOAD, 2, 0, 2, Op.MUL, 0, 0, 2, Op.RETURN, 0, 0,
            4, Op.PUSH, 1, 0, 4, Op.RETURN, 0, 0};

        private Samples() {
        }

        private static void type(int k, Program program) {
            program.clear();
            program.addClass(NONE, false);
            switch (k) {
                case 0:
                    typeAnimals(program);
                    break;
                case 1:
                    program.addMethod(0, 1, true, 1);
                    typeCodes(program, COUNTING);
                    break;
                case 2:
                    typeDividing(program);
                    break;
                default:
                    typeMaking(program);
                    break;
            }
            program.entries |= 1;
        }

        private static void typeAnimals(Program program) {
            program.addClass(0, false);
            program.addClass(0, false);
            program.addMethod(0, 1, true, 0);
            program.addMethod(0, 4, false, 0);
            program.addMethod(1, 4, false, 0);
            program.addMethod(2, 4, false, 0);
            typeCodes(program, ANIMALS);
        }

        private static void typeDividing(Program program) {
            program.addMethod(0, 1, true, 0);
            program.addMethod(0, 5, true, 0);
            program.addMethod(0, 9, true, 0);
            typeCodes(program, DIVIDING);
            program.codes[0].addGuard(1, 2, 3);
            program.entries |= 1 << 2;
        }

        private static void typeMaking(Program program) {
            program.addClass(0, false);
            program.addClass(NONE, true);
            program.addClass(0, false);
            program.namedClasses = 1 << 1 | 1 << 3;
            program.ownInterfaces[3] = 1 << 2;
            program.addField(0, 0, false);
            program.addField(0, 1, false);
            program.addField(1, 0, false);
            program.addField(0, 2, true);
            program.addMethod(0, 1, true, 1);
            program.addMethod(2, 6, false, 0);
            program.addMethod(3, 6, false, 0);
            program.addMethod(2, 13, false, 0);
            program.addMethod(3, 5, false, 0);
            typeCodes(program, MAKING);
        }

        private static void typeCodes(Program program, int[] rows) {
            for (int at = 0; at + 3 < rows.length; at += 4) {
                program.codes[rows[at]].append(rows[at + 1], rows[at + 2], rows[at + 3]);
            }
        }
    }

    /** Where a code goes: what is LIVE, what is RIGHT, what is FOLDED. */
    private static final class Flow {
        /** HEIGHTS by places, as heightsAgree left them; NONE where nothing comes to. */
        private final int[] heights;

        private Flow() {
            heights = new int[MOST_INSTRUCTIONS];
        }

        private int livePlaces(Code code) {
            int live = code.size > 0 ? 1 : 0;
            for (int round = 0; round < MOST_INSTRUCTIONS; round++) {
                int before = live;
                for (int place = 0; place < code.size; place++) {
                    if (has(live, place)) {
                        live |= waysFrom(code, place);
                    }
                }
                if (live == before) {
                    break;
                }
            }
            return live;
        }

        private static int waysFrom(Code code, int place) {
            int op = code.opAt(place);
            int ways = Op.goesOn(op) ? placeBit(code, place + 1) : 0;
            if (Op.tellsPlace(op)) {
                ways |= placeBit(code, code.aAt(place));
            }
            for (int guard = 0; guard < code.guards; guard++) {
                if (code.isGuarded(guard, place)) {
                    ways |= placeBit(code, code.handlers[guard]);
                }
            }
            return ways;
        }

        private static int placeBit(Code code, int place) {
            return place >= 0 && place < code.size ? 1 << place : 0;
        }

        private boolean allSuit(Program program) {
            if (program.entries == 0) {
                return false;
            }
            for (int method = 0; method < MOST_METHODS; method++) {
                if (has(program.methods, method) && !suits(program, method)) {
                    return false;
                }
            }
            return true;
        }

        /** Whether the method is RIGHT. */
        private boolean suits(Program program, int method) {
            Code code = program.codes[method];
            if (code.size == 0) {
                return code.guards == 0 && !has(program.entries, method);
            }
            return !has(program.interfaces, program.methodClass[method])
                    && guardsSuit(code) && numbersSuit(program, method) && heightsAgree(code);
        }

        private static boolean guardsSuit(Code code) {
            for (int guard = 0; guard < code.guards; guard++) {
                int from = code.froms[guard];
                int to = code.tos[guard];
                if (from < 0 || from >= to || to > code.size || !code.hasPlace(code.handlers[guard])) {
                    return false;
                }
            }
            return true;
        }

        private static boolean numbersSuit(Program program, int method) {
            Code code = program.codes[method];
            int variables = program.variablesOf(method);
            for (int place = 0; place < code.size; place++) {
                int op = code.opAt(place);
                int a = code.aAt(place);
                if (Op.tellsPlace(op) && !code.hasPlace(a)) {
                    return false;
                }
                if (Op.tellsVariable(op) && (a < 0 || a >= variables)) {
                    return false;
                }
                if (Op.tellsClass(op) && !has(program.classes, a)) {
                    return false;
                }
            }
            return true;
        }

        private boolean heightsAgree(Code code) {
            for (int place = 0; place < heights.length; place++) {
                heights[place] = NONE;
            }
            if (code.size == 0 || code.size > heights.length) {
                return false;
            }
            heights[0] = 0;
            int left = 0;
            for (int round = 0; round < code.size; round++) {
                int place = nextKnown(code, left);
                if (place == NONE) {
                    break;
                }
                if (!leavesWell(code, place)) {
                    return false;
                }
                left |= 1 << place;
            }
            return true;
        }

        /** A place whose HEIGHT is known and that was not left yet. */
        private int nextKnown(Code code, int left) {
            for (int place = 0; place < code.size && place < heights.length; place++) {
                if (heights[place] != NONE && !has(left, place)) {
                    return place;
                }
            }
            return NONE;
        }

        private boolean leavesWell(Code code, int place) {
            int op = code.opAt(place);
            int rest = heightAt(place) - Op.takes(op, code.bAt(place));
            int height = rest + Op.puts(op);
            if (rest < 0 || height > MOST_HEIGHT) {
                return false;
            }
            if (Op.goesOn(op) && !comesTo(code, place + 1, height)) {
                return false;
            }
            if (Op.tellsPlace(op) && !comesTo(code, code.aAt(place), height)) {
                return false;
            }
            for (int guard = 0; guard < code.guards; guard++) {
                if (code.isGuarded(guard, place) && !comesTo(code, code.handlers[guard], 1)) {
                    return false;
                }
            }
            return true;
        }

        private int heightAt(int place) {
            return place >= 0 && place < heights.length ? heights[place] : NONE;
        }

        private boolean comesTo(Code code, int place, int height) {
            if (!code.hasPlace(place) || place >= heights.length) {
                return false;
            }
            if (heights[place] == NONE) {
                heights[place] = height;
            }
            return heights[place] == height;
        }

        private void fold(Code code) {
            for (int round = 0; round <= MOST_INSTRUCTIONS; round++) {
                int live = livePlaces(code);
                for (int place = code.size - 1; place >= 0; place--) {
                    if (!has(live, place)) {
                        code.takeOut(place);
                    }
                }
                boolean isDone = true;
                for (int place = 0; isDone && place < code.size; place++) {
                    isDone = !foldsAt(code, place);
                }
                if (isDone) {
                    break;
                }
            }
        }

        private static boolean foldsAt(Code code, int place) {
            int op = code.opAt(place);
            if (op == Op.NOP || op == Op.JUMP && code.aAt(place) == place + 1) {
                code.takeOut(place);
                return true;
            }
            if (!code.hasPlace(place + 1) || code.isGoneTo(place + 1)) {
                return false;
            }
            int next = code.opAt(place + 1);
            if (next == Op.POP && (op == Op.PUSH || op == Op.LOAD || op == Op.NULL)) {
                code.takeOut(place + 1);
                code.takeOut(place);
                return true;
            }
            return op == Op.PUSH && (foldsNeg(code, place) || foldsIf(code, place) || foldsTwo(code, place));
        }

        private static boolean foldsNeg(Code code, int place) {
            if (code.opAt(place + 1) != Op.NEG) {
                return false;
            }
            code.turnInto(place, Op.PUSH, -code.aAt(place));
            code.takeOut(place + 1);
            return true;
        }

        private static boolean foldsIf(Code code, int place) {
            if (code.opAt(place + 1) != Op.IF0) {
                return false;
            }
            if (code.aAt(place) == 0) {
                code.turnInto(place, Op.JUMP, code.aAt(place + 1));
                code.takeOut(place + 1);
            } else {
                code.takeOut(place + 1);
                code.takeOut(place);
            }
            return true;
        }

        private static boolean foldsTwo(Code code, int place) {
            int op = code.opAt(place + 2);
            int y = code.aAt(place + 1);
            if (code.opAt(place + 1) != Op.PUSH || !Op.reckons(op) || code.isGoneTo(place + 2)) {
                return false;
            }
            if (Op.divides(op) && y == 0) {
                return false;
            }
            code.turnInto(place, Op.PUSH, Op.reckon(op, code.aAt(place), y));
            code.takeOut(place + 2);
            code.takeOut(place + 1);
            return true;
        }
    }

    /** A program as it was shrunk: how it was, how it is, and what its names are. */
    private static final class Image {
        private final Program was;
        private final Program small;
        /** Letters by numbers; NONE where the name stays. */
        private final int[] classLetters;
        private final int[] methodLetters;
        private final int[] fieldLetters;
        private final int[] letterBehind;
        private int made;
        private int reachedMethods;
        private int reachedFields;
        private int toldClasses;

        private Image() {
            was = new Program(MOST_INSTRUCTIONS);
            small = new Program(MOST_INSTRUCTIONS);
            classLetters = new int[MOST_CLASSES];
            methodLetters = new int[MOST_METHODS];
            fieldLetters = new int[MOST_FIELDS];
            letterBehind = new int[MOST_CLASSES];
        }

        private void take(Program program, Flow flow) {
            was.become(program);
            small.become(program);
            for (int method = 0; method < MOST_METHODS; method++) {
                if (has(small.methods, method)) {
                    flow.fold(small.codes[method]);
                }
            }
            reachAll();
            dropPuts();
            small.keepOnly(classesToKeep(), reachedMethods, reachedFields);
            nameClasses();
            nameMethods();
            nameFields();
        }

        private void reachAll() {
            reachedMethods = small.entries;
            reachedFields = 0;
            toldClasses = 0;
            made = small.namedClasses & ~small.interfaces;
            for (int round = 0; round <= MOST_METHODS + MOST_CLASSES; round++) {
                int methodsBefore = reachedMethods;
                int madeBefore = made;
                for (int method = 0; method < MOST_METHODS; method++) {
                    if (has(reachedMethods, method)) {
                        reachFrom(small.codes[method]);
                    }
                }
                if (reachedMethods == methodsBefore && made == madeBefore) {
                    break;
                }
            }
        }

        private void reachFrom(Code code) {
            for (int place = 0; place < code.size; place++) {
                int op = code.opAt(place);
                int a = code.aAt(place);
                int b = code.bAt(place);
                if (Op.tellsClass(op)) {
                    toldClasses = with(toldClasses, a, true);
                }
                if (op == Op.NEW && !has(small.interfaces, a)) {
                    made = with(made, a, true);
                } else if (op == Op.CALL) {
                    reachedMethods |= targetsOf(a, b);
                } else if (op == Op.DCALL || op == Op.SCALL) {
                    reachedMethods = with(reachedMethods, small.firstMethod(a, b), true);
                } else if (Op.tellsField(op)) {
                    reachField(op, a, b);
                }
            }
        }

        /** The set of what a CALL finds from MADE classes. */
        private int targetsOf(int a, int signature) {
            int targets = 0;
            for (int cls = 0; cls < MOST_CLASSES; cls++) {
                if (has(made, cls) && has(small.kinds(cls), a)) {
                    targets = with(targets, small.firstMethod(cls, signature), true);
                }
            }
            return targets;
        }

        private void reachField(int op, int a, int name) {
            boolean isRead = op == Op.GET || op == Op.SGET;
            int field = small.firstField(a, name);
            if (isRead || !small.isFitting(op, field)) {
                reachedFields = with(reachedFields, field, true);
            }
        }

        private void dropPuts() {
            for (int method = 0; method < MOST_METHODS; method++) {
                if (has(reachedMethods, method)) {
                    dropPutsIn(small.codes[method]);
                }
            }
        }

        private void dropPutsIn(Code code) {
            for (int place = 0; place < code.size; place++) {
                int op = code.opAt(place);
                int a = code.aAt(place);
                if (op == Op.PUT || op == Op.SPUT) {
                    int field = small.firstField(a, code.bAt(place));
                    if (small.isFitting(op, field) && !has(reachedFields, field)) {
                        code.turnInto(place, op == Op.PUT ? Op.DROP : Op.SDROP, a);
                    }
                }
            }
        }

        private int classesToKeep() {
            int keep = made | small.namedClasses | toldClasses;
            for (int method = 0; method < MOST_METHODS; method++) {
                if (has(reachedMethods, method)) {
                    keep = with(keep, small.methodClass[method], true);
                }
            }
            for (int field = 0; field < MOST_FIELDS; field++) {
                if (has(reachedFields, field)) {
                    keep = with(keep, small.fieldClass[field], true);
                }
            }
            // A SUPER has a smaller number, and INTERFACES have nothing above them: one way down is enough.
            for (int cls = MOST_CLASSES - 1; cls >= 0; cls--) {
                if (has(keep, cls)) {
                    keep = with(keep, small.above[cls], true) | small.ownInterfaces[cls];
                }
            }
            return keep;
        }

        private void nameClasses() {
            int stays = small.namedClasses;
            for (int method = 0; method < MOST_METHODS; method++) {
                if (has(small.entries, method)) {
                    stays = with(stays, small.methodClass[method], true);
                }
            }
            int next = 0;
            for (int cls = 0; cls < MOST_CLASSES; cls++) {
                classLetters[cls] = NONE;
                if (has(small.classes, cls) && !has(stays, cls)) {
                    classLetters[cls] = next;
                    next++;
                }
            }
        }

        private void nameMethods() {
            for (int arity = 0; arity <= MOST_ARITY; arity++) {
                int next = 0;
                for (int method = 0; method < MOST_METHODS; method++) {
                    if (has(small.methods, method) && small.arityOf(method) == arity) {
                        int first = familyOf(small.signatures[method]);
                        if (first != method) {
                            methodLetters[method] = methodLetters[first];
                        } else if (hasEntry(small.signatures[method])) {
                            methodLetters[method] = NONE;
                        } else {
                            methodLetters[method] = next;
                            next++;
                        }
                    }
                }
            }
        }

        /** The smallest method of the FAMILY, or NONE without one. */
        private int familyOf(int signature) {
            for (int method = 0; method < MOST_METHODS; method++) {
                if (has(small.methods, method) && small.signatures[method] == signature) {
                    return method;
                }
            }
            return NONE;
        }

        private boolean hasEntry(int signature) {
            for (int method = 0; method < MOST_METHODS; method++) {
                if (has(small.entries, method) && small.signatures[method] == signature) {
                    return true;
                }
            }
            return false;
        }

        private void nameFields() {
            for (int cls = 0; cls < MOST_CLASSES; cls++) {
                int first = has(small.classes, cls) ? letterFrom(small.above[cls]) : 0;
                int next = first;
                for (int field = 0; field < MOST_FIELDS; field++) {
                    if (has(small.fields, field) && small.fieldClass[field] == cls) {
                        fieldLetters[field] = next;
                        next++;
                    }
                }
                letterBehind[cls] = next;
            }
        }

        /** A class without fields hands on the letter that it was handed, so the next one UPWARD tells all. */
        private int letterFrom(int over) {
            return has(small.classes, over) ? letterBehind[over] : 0;
        }

        private int kept(int what) {
            switch (what) {
                case 0:
                    return small.classes;
                case 1:
                    return small.methods;
                default:
                    return small.fields;
            }
        }

        private int lineCount(int method) {
            return has(small.methods, method) ? small.codes[method].size : NONE;
        }

        private int methodBehind(int cls, int letter, int arity) {
            int at = cls;
            for (int up = 0; up < MOST_CLASSES && has(small.classes, at); up++) {
                for (int method = 0; method < MOST_METHODS; method++) {
                    if (has(small.methods, method) && small.methodClass[method] == at
                            && small.arityOf(method) == arity && methodLetters[method] == letter) {
                        return method;
                    }
                }
                at = small.above[at];
            }
            return NONE;
        }

        private int count(int what) {
            switch (what) {
                case 0:
                    return Integer.bitCount(small.classes);
                case 1:
                    return Integer.bitCount(small.methods);
                case 2:
                    return Integer.bitCount(small.fields);
                case 3:
                    return small.instructions();
                case 4:
                    return Integer.bitCount(made);
                default:
                    return families();
            }
        }

        private int families() {
            int count = 0;
            for (int method = 0; method < MOST_METHODS; method++) {
                if (has(small.methods, method) && familyOf(small.signatures[method]) == method) {
                    count++;
                }
            }
            return count;
        }
    }

    /** Writes all texts into one room, which is used again for each. */
    private static final class Writer {
        private final StringBuilder text;

        private Writer() {
            text = new StringBuilder();
        }

        private String nameOf(Image image, int what, int number) {
            text.setLength(0);
            if (what == 0) {
                addClass(image, number);
            } else if (what == 1) {
                addMethod(image, number);
            } else {
                addLetter(image.fieldLetters[number]);
            }
            return text.toString();
        }

        private String lineOf(Image image, int method, int place) {
            writeLine(image, method, place);
            return text.toString();
        }

        private String mapOf(Image image) {
            writeMap(image);
            return text.toString();
        }

        private void writeLine(Image image, int method, int place) {
            text.setLength(0);
            Code code = image.small.codes[method];
            int op = code.opAt(place);
            int a = code.aAt(place);
            int b = code.bAt(place);
            text.append(Op.word(op));
            if (Op.tellsNumber(op)) {
                text.append(' ');
                text.append(a);
            } else if (Op.tellsClass(op)) {
                text.append(' ');
                addClass(image, a);
            }
            if (Op.tellsField(op)) {
                text.append('.');
                int field = image.small.firstField(a, b);
                addLetter(image.small.isFitting(op, field) ? image.fieldLetters[field] : NONE);
            } else if (Op.isCall(op)) {
                addFamily(image, b);
            }
        }

        private void addFamily(Image image, int signature) {
            int first = image.familyOf(signature);
            text.append('.');
            if (first == NONE) {
                text.append('-');
            } else {
                addMethod(image, first);
            }
            text.append('/');
            text.append(signature & 3);
        }

        private void writeMap(Image image) {
            text.setLength(0);
            Program small = image.small;
            for (int cls = 0; cls < MOST_CLASSES; cls++) {
                if (has(small.classes, cls)) {
                    addTyped('C', cls);
                    text.append('>');
                    addClass(image, cls);
                    text.append(':');
                    mapFields(image, cls);
                    mapMethods(image, cls);
                    text.append(';');
                }
            }
        }

        private void mapFields(Image image, int cls) {
            Program small = image.small;
            for (int field = 0; field < MOST_FIELDS; field++) {
                if (has(small.fields, field) && small.fieldClass[field] == cls) {
                    text.append(' ');
                    addTyped('f', small.fieldName[field]);
                    text.append('>');
                    addLetter(image.fieldLetters[field]);
                }
            }
        }

        private void mapMethods(Image image, int cls) {
            Program small = image.small;
            for (int method = 0; method < MOST_METHODS; method++) {
                if (has(small.methods, method) && small.methodClass[method] == cls) {
                    text.append(' ');
                    addTyped('m', small.nameOf(method));
                    text.append('/');
                    text.append(small.arityOf(method));
                    text.append('>');
                    addMethod(image, method);
                }
            }
        }

        private void addTyped(char kind, int number) {
            text.append(kind);
            text.append(number);
        }

        private void addLetter(int letter) {
            text.append(letter == NONE ? '-' : (char) ('a' + letter));
        }

        private void addClass(Image image, int cls) {
            if (image.classLetters[cls] == NONE) {
                addTyped('C', cls);
            } else {
                addLetter(image.classLetters[cls]);
            }
        }

        private void addMethod(Image image, int method) {
            if (image.methodLetters[method] == NONE) {
                addTyped('m', image.small.nameOf(method));
            } else {
                addLetter(image.methodLetters[method]);
            }
        }

        /** Keeps the texts of a run of the program as it was typed. */
        private void tellRun(Report report, Program program) {
            report.isOfShrunk = false;
            tellResultAndOut(report);
            report.traceText = traceOf(report, program);
            report.rawText = report.traceText;
        }

        /** Keeps the texts of a run of the SHRUNK program. */
        private void tellShrunkRun(Report report, Image image) {
            report.isOfShrunk = true;
            tellResultAndOut(report);
            report.traceText = traceOf(report, image.was);
            report.rawText = rawOf(report, image);
        }

        private void tellResultAndOut(Report report) {
            text.setLength(0);
            addResult(report);
            report.resultText = text.toString();
            text.setLength(0);
            for (int at = 0; at < report.printed.length && at < report.prints; at++) {
                if (at > 0) {
                    text.append(' ');
                }
                text.append(report.printed[at]);
            }
            report.outText = text.toString();
        }

        private void addResult(Report report) {
            switch (report.ending) {
                case Report.AN_INT:
                    addTyped('=', report.number);
                    break;
                case Report.A_NULL:
                    text.append("=null");
                    break;
                case Report.AN_OBJECT:
                    text.append('=');
                    addTyped('C', report.number);
                    break;
                case Report.WRONG:
                    addTyped('!', report.kind);
                    if (report.kind == Machine.THROWN) {
                        addTyped(':', report.number);
                    }
                    break;
                default:
                    text.append('?');
                    break;
            }
        }

        private String traceOf(Report report, Program typed) {
            text.setLength(0);
            for (int at = 0; at < report.traced; at++) {
                int method = report.traceMethods[at];
                addBlankBehindFirst(at);
                addTyped('C', typed.methodClass[method]);
                text.append('.');
                addTyped('m', typed.nameOf(method));
                addWhere(typed.arityOf(method), report.typedPlaces[at]);
            }
            return text.toString();
        }

        private String rawOf(Report report, Image image) {
            text.setLength(0);
            for (int at = 0; at < report.traced; at++) {
                int method = report.traceMethods[at];
                addBlankBehindFirst(at);
                addClass(image, image.small.methodClass[method]);
                text.append('.');
                addMethod(image, method);
                addWhere(image.small.arityOf(method), report.rawPlaces[at]);
            }
            return text.toString();
        }

        private void addBlankBehindFirst(int at) {
            if (at > 0) {
                text.append(' ');
            }
        }

        private void addWhere(int arity, int place) {
            addTyped('/', arity);
            addTyped(':', place);
        }
    }

    /** What a run came to. */
    private static final class Report {
        private static final int GOING = 0;
        private static final int AN_INT = 1;
        private static final int A_NULL = 2;
        private static final int AN_OBJECT = 3;
        private static final int WRONG = 4;
        private static final int OPEN = 5;

        private final int[] printed;
        private final int[] starts;
        private final int[] traceMethods;
        private final int[] typedPlaces;
        private final int[] rawPlaces;
        private int ending;
        /** The INT, the class of the OBJECT, or what was thrown. */
        private int number;
        private int kind;
        private int prints;
        private int beats;
        private int most;
        private int steps;
        private int traced;
        private boolean isOfShrunk;
        private String resultText;
        private String outText;
        private String traceText;
        private String rawText;

        private Report() {
            printed = new int[MOST_TOLD_NUMBERS];
            starts = new int[MOST_METHODS];
            traceMethods = new int[MOST_GOING_ON];
            typedPlaces = new int[MOST_GOING_ON];
            rawPlaces = new int[MOST_GOING_ON];
            resultText = "";
            outText = "";
            traceText = "";
            rawText = "";
        }

        private void clear() {
            for (int method = 0; method < starts.length; method++) {
                starts[method] = 0;
            }
            ending = GOING;
            number = 0;
            kind = 0;
            prints = 0;
            beats = 0;
            most = 0;
            steps = 0;
            traced = 0;
        }

        private void addPrinted(int printedNumber) {
            if (prints < printed.length) {
                printed[prints] = printedNumber;
            }
            prints++;
        }

        private void addStart(int method, int goingOn) {
            if (method >= 0 && method < starts.length) {
                starts[method]++;
            }
            most = Math.max(most, goingOn);
        }

        private void addTraced(int method, int typedPlace, int rawPlace) {
            if (traced < traceMethods.length) {
                traceMethods[traced] = method;
                typedPlaces[traced] = typedPlace;
                rawPlaces[traced] = rawPlace;
                traced++;
            }
        }

        private int startsOf(int method) {
            return method >= 0 && method < starts.length ? starts[method] : 0;
        }

        private int tell(int what) {
            switch (what) {
                case 0:
                    return beats;
                case 1:
                    return prints;
                case 2:
                    return most;
                default:
                    return isOfShrunk ? 1 : 0;
            }
        }

        private boolean hasSameResultAndOut(Report other) {
            if (ending != other.ending || number != other.number || kind != other.kind) {
                return false;
            }
            int told = Math.min(prints, printed.length);
            if (told != Math.min(other.prints, other.printed.length)) {
                return false;
            }
            for (int at = 0; at < told; at++) {
                if (printed[at] != other.printed[at]) {
                    return false;
                }
            }
            return true;
        }

        private boolean hasSameTrace(Report other) {
            if (traced != other.traced) {
                return false;
            }
            for (int at = 0; at < traced && at < traceMethods.length; at++) {
                if (traceMethods[at] != other.traceMethods[at] || typedPlaces[at] != other.typedPlaces[at]) {
                    return false;
                }
            }
            return true;
        }
    }

    /** The machine with a stack. VALUES are longs: the upper half tells what it is, the lower one which. */
    private static final class Machine {
        private static final int FINE = 0;
        private static final int NULL_MET = 1;
        private static final int DIVIDED_BY_0 = 2;
        private static final int OTHER_VALUE = 3;
        private static final int OTHER_CLASS = 4;
        private static final int NONE_SUCH = 5;
        private static final int THROWN = 6;
        private static final int TOO_MANY = 7;

        private static final long NULL_VALUE = 1L << 32;
        private static final long OBJECT_TAG = 2L << 32;
        private static final long LOWER_HALF = 0xFFFFFFFFL;

        /** Twice as many variables and more stack than typed, for calls that were put in. */
        private static final int VARIABLES = 16;
        private static final int STACK = 32;
        private static final int LONGEST_CODE = 160;
        /** Without a BEAT a method only goes ahead: that bounds the INSTRUCTIONS of a run, and what they make. */
        private static final int MOST_STEPS = (MOST_BEATS + 1) * LONGEST_CODE;
        private static final int MOST_MADE = (MOST_BEATS + 1) * MOST_INSTRUCTIONS;

        private final int[] methods;
        private final int[] places;
        private final int[] heights;
        private final long[] variables;
        private final long[] stacks;
        private final long[] statics;
        /** A cell comes with the first PUT of a field into an OBJECT; the cells of one are a chain. */
        private final int[] objectClasses;
        private final int[] firstCells;
        private final int[] cellFields;
        private final int[] nextCells;
        private final long[] cellValues;
        private int objects;
        private int cells;
        private int goingOn;
        private int thrown;
        private Program program;
        private Report report;

        private Machine() {
            methods = new int[MOST_GOING_ON];
            places = new int[MOST_GOING_ON];
            heights = new int[MOST_GOING_ON];
            variables = new long[MOST_GOING_ON * VARIABLES];
            stacks = new long[MOST_GOING_ON * STACK];
            statics = new long[MOST_FIELDS];
            objectClasses = new int[MOST_MADE];
            firstCells = new int[MOST_MADE];
            cellFields = new int[MOST_MADE];
            nextCells = new int[MOST_MADE];
            cellValues = new long[MOST_MADE];
        }

        private static long intValue(int number) {
            return number & LOWER_HALF;
        }

        private static boolean isInt(long value) {
            return value >>> 32 == 0;
        }

        private static boolean isObject(long value) {
            return (value & OBJECT_TAG) != 0;
        }

        private void perform(Program which, int entry, int told, Report into) {
            program = which;
            report = into;
            report.clear();
            for (int field = 0; field < statics.length; field++) {
                statics[field] = 0L;
            }
            objects = 0;
            cells = 0;
            goingOn = 0;
            thrown = 0;
            begin(entry);
            if (program.arityOf(entry) == 1) {
                variables[0] = intValue(told);
            }
            for (int steps = 0; steps < MOST_STEPS && goingOn > 0 && report.ending == Report.GOING; steps++) {
                report.steps++;
                int kind = step();
                if (kind != FINE) {
                    goWrong(kind);
                }
            }
        }

        private void begin(int method) {
            if (goingOn >= MOST_GOING_ON) {
                return;
            }
            methods[goingOn] = method;
            places[goingOn] = 0;
            heights[goingOn] = 0;
            for (int variable = 0; variable < VARIABLES; variable++) {
                variables[goingOn * VARIABLES + variable] = 0L;
            }
            goingOn++;
            report.addStart(method, goingOn);
        }

        /** Whether there was a BEAT left; the run is OPEN without one. */
        private boolean beats() {
            if (report.beats >= MOST_BEATS) {
                report.ending = Report.OPEN;
                return false;
            }
            report.beats++;
            return true;
        }

        private int step() {
            int top = goingOn - 1;
            Code code = program.codes[methods[top]];
            int op = code.opAt(places[top]);
            int a = code.aAt(places[top]);
            int b = code.bAt(places[top]);
            if (Op.tellsPlace(op) || op == Op.THROW || op == Op.RETURN) {
                return flowStep(op, a);
            }
            if (Op.isCall(op)) {
                return callStep(op, a, b);
            }
            int kind;
            if (Op.reckons(op)) {
                kind = reckonStep(op);
            } else if (op == Op.NEG || op == Op.PRINT) {
                kind = intStep(op);
            } else if (Op.tellsField(op) || op == Op.DROP) {
                kind = fieldStep(op, a, b);
            } else if (op == Op.NEW || op == Op.NEWBY || op == Op.CAST || op == Op.ISA) {
                kind = classStep(op, a);
            } else if (op == Op.BEGIN) {
                kind = beginPutIn(a);
            } else {
                kind = stackStep(op, a);
            }
            if (kind == FINE) {
                places[top]++;
            }
            return kind;
        }

        /** What never goes wrong. */
        private int stackStep(int op, int a) {
            int variable = (goingOn - 1) * VARIABLES + (a >= 0 && a < VARIABLES ? a : 0);
            switch (op) {
                case Op.PUSH:
                    push(intValue(a));
                    break;
                case Op.LOAD:
                    push(variables[variable]);
                    break;
                case Op.STORE:
                    variables[variable] = pop();
                    break;
                case Op.POP:
                case Op.SDROP:
                    pop();
                    break;
                case Op.DUP:
                    putTwice(pop());
                    break;
                case Op.SWAP:
                    putOther(pop(), pop());
                    break;
                case Op.NULL:
                    push(NULL_VALUE);
                    break;
                default:
                    break;
            }
            return FINE;
        }

        private void putTwice(long value) {
            push(value);
            push(value);
        }

        private void putOther(long upper, long lower) {
            push(upper);
            push(lower);
        }

        private void push(long value) {
            int top = goingOn - 1;
            if (top >= 0 && heights[top] < STACK) {
                stacks[top * STACK + heights[top]] = value;
                heights[top]++;
            }
        }

        private long pop() {
            int top = goingOn - 1;
            if (top < 0 || heights[top] <= 0) {
                return 0L;
            }
            heights[top]--;
            return stacks[top * STACK + heights[top]];
        }

        private int reckonStep(int op) {
            long y = pop();
            long x = pop();
            if (op == Op.SAME) {
                push(x == y ? 1L : 0L);
                return FINE;
            }
            if (!isInt(x) || !isInt(y)) {
                return OTHER_VALUE;
            }
            if (Op.divides(op) && y == 0L) {
                return DIVIDED_BY_0;
            }
            push(intValue(Op.reckon(op, (int) x, (int) y)));
            return FINE;
        }

        private int intStep(int op) {
            long x = pop();
            if (!isInt(x)) {
                return OTHER_VALUE;
            }
            if (op == Op.NEG) {
                push(intValue(-(int) x));
            } else {
                report.addPrinted((int) x);
            }
            return FINE;
        }

        private int classStep(int op, int a) {
            if (op == Op.NEW) {
                return make(a, true);
            }
            long x = pop();
            if (op == Op.NEWBY) {
                return isInt(x) ? make((int) x, has(program.namedClasses, (int) x)) : OTHER_VALUE;
            }
            if (op == Op.ISA) {
                push(has(program.kinds(classOf(x)), a) ? 1L : 0L);
                return FINE;
            }
            int kind = x == NULL_VALUE ? FINE : lookAtObject(x, a);
            if (kind == FINE) {
                push(x);
            }
            return kind;
        }

        private int make(int cls, boolean isAllowed) {
            if (!isAllowed || !has(program.classes, cls) || has(program.interfaces, cls)) {
                return NONE_SUCH;
            }
            if (objects < MOST_MADE) {
                objectClasses[objects] = cls;
                firstCells[objects] = NONE;
                push(OBJECT_TAG | objects);
                objects++;
            }
            return FINE;
        }

        private int classOf(long value) {
            int object = (int) value;
            boolean isThere = (value & OBJECT_TAG) != 0 && object >= 0 && object < objects;
            return isThere ? objectClasses[object] : NONE;
        }

        /** What is wrong where an OBJECT of a class that IS A class a is wanted. */
        private int lookAtObject(long value, int a) {
            if (value == NULL_VALUE) {
                return NULL_MET;
            }
            if (isInt(value)) {
                return OTHER_VALUE;
            }
            return has(program.kinds(classOf(value)), a) ? FINE : OTHER_CLASS;
        }

        private int fieldStep(int op, int a, int b) {
            boolean stores = op == Op.PUT || op == Op.SPUT || op == Op.DROP;
            boolean isStatic = op == Op.SGET || op == Op.SPUT;
            long y = stores ? pop() : 0L;
            long object = isStatic ? NULL_VALUE : pop();
            int kind = isStatic ? FINE : lookAtObject(object, a);
            if (kind != FINE || op == Op.DROP) {
                return kind;
            }
            int field = program.firstField(a, b);
            if (field < 0 || field >= statics.length || !program.isFitting(op, field)) {
                return NONE_SUCH;
            }
            if (isStatic && stores) {
                statics[field] = y;
            } else if (isStatic) {
                push(statics[field]);
            } else if (stores) {
                storeInCell((int) object, field, y);
            } else {
                int cell = cellOf((int) object, field);
                push(cell == NONE ? 0L : cellValues[cell]);
            }
            return FINE;
        }

        private int cellOf(int object, int field) {
            int cell = object >= 0 && object < objects ? firstCells[object] : NONE;
            for (int seen = 0; seen < MOST_FIELDS && cell >= 0 && cell < cells; seen++) {
                if (cellFields[cell] == field) {
                    return cell;
                }
                cell = nextCells[cell];
            }
            return NONE;
        }

        private void storeInCell(int object, int field, long value) {
            int cell = cellOf(object, field);
            if (cell == NONE && object >= 0 && object < objects && cells < MOST_MADE) {
                cell = cells;
                cells++;
                cellFields[cell] = field;
                nextCells[cell] = firstCells[object];
                firstCells[object] = cell;
            }
            if (cell != NONE) {
                cellValues[cell] = value;
            }
        }

        private int flowStep(int op, int a) {
            if (op == Op.JUMP) {
                goOnAt(a);
                return FINE;
            }
            long x = pop();
            if (op == Op.RETURN) {
                leaveWith(x);
                return FINE;
            }
            if (!isInt(x)) {
                return OTHER_VALUE;
            }
            if (op == Op.THROW) {
                thrown = (int) x;
                return THROWN;
            }
            if (x == 0L) {
                goOnAt(a);
            } else {
                places[goingOn - 1]++;
            }
            return FINE;
        }

        private void goOnAt(int place) {
            int top = goingOn - 1;
            if (place > places[top] || beats()) {
                places[top] = place;
            }
        }

        private void leaveWith(long value) {
            goingOn--;
            if (goingOn > 0) {
                push(value);
                places[goingOn - 1]++;
            } else if (isObject(value)) {
                report.ending = Report.AN_OBJECT;
                report.number = classOf(value);
            } else {
                report.ending = isInt(value) ? Report.AN_INT : Report.A_NULL;
                report.number = isInt(value) ? (int) value : 0;
            }
        }

        private int callStep(int op, int a, int b) {
            boolean isStatic = op == Op.SCALL;
            int caller = goingOn - 1;
            int taken = Op.takes(op, b);
            int rest = Math.max(heights[caller] - taken, 0);
            heights[caller] = rest;
            long object = isStatic ? NULL_VALUE : stacks[caller * STACK + rest];
            int kind = isStatic ? FINE : lookAtObject(object, a);
            if (kind != FINE) {
                return kind;
            }
            int method = program.firstMethod(op == Op.CALL ? classOf(object) : a, b);
            if (!program.hasCode(method) || has(program.staticMethods, method) != isStatic) {
                return NONE_SUCH;
            }
            if (goingOn >= MOST_GOING_ON) {
                return TOO_MANY;
            }
            if (beats()) {
                begin(method);
                System.arraycopy(stacks, caller * STACK + rest, variables, (caller + 1) * VARIABLES, taken);
            }
            return FINE;
        }

        /** As a call that was put in begins: it goes wrong and beats as the call would. */
        private int beginPutIn(int method) {
            if (goingOn >= MOST_GOING_ON) {
                return TOO_MANY;
            }
            if (beats()) {
                report.addStart(method, goingOn + 1);
            }
            return FINE;
        }

        private void goWrong(int kind) {
            for (int frame = goingOn - 1; frame >= 0; frame--) {
                int handler = program.codes[methods[frame]].handlerFor(places[frame]);
                if (handler != NONE) {
                    goOnAtHandler(frame, handler, kind);
                    return;
                }
            }
            report.ending = Report.WRONG;
            report.kind = kind;
            report.number = kind == THROWN ? thrown : 0;
            for (int frame = goingOn - 1; frame >= 0; frame--) {
                int typedPlace = program.codes[methods[frame]].originAt(places[frame]);
                report.addTraced(methods[frame], typedPlace, places[frame]);
            }
        }

        private void goOnAtHandler(int frame, int handler, int kind) {
            goingOn = frame + 1;
            if (beats()) {
                heights[frame] = 0;
                places[frame] = handler;
                push(intValue(kind == THROWN ? thrown : -kind));
            }
        }
    }

    /** Puts the code of a method in for calls of it, where only that one can be begun and it begins no other. */
    private static final class Inliner {
        private final Program whole;
        private final Flow flow;
        private final int[] starts;
        private int leaves;

        private Inliner(Flow flow) {
            this.flow = flow;
            whole = new Program(Machine.LONGEST_CODE);
            starts = new int[MOST_INSTRUCTIONS + 1];
        }

        private void take(Image image) {
            Program small = image.small;
            whole.becomeWithoutCode(small);
            leaves = 0;
            for (int method = 0; method < MOST_METHODS; method++) {
                leaves = with(leaves, method, isLeaf(small, method));
            }
            for (int method = 0; method < MOST_METHODS; method++) {
                if (has(small.methods, method)) {
                    putInto(image, method);
                }
            }
        }

        private boolean isLeaf(Program small, int method) {
            if (!small.hasCode(method) || small.codes[method].guards > 0 || !flow.heightsAgree(small.codes[method])) {
                return false;
            }
            Code code = small.codes[method];
            for (int place = 0; place < code.size; place++) {
                int op = code.opAt(place);
                // What lies below the VALUE that is returned would stay on the stack of who called.
                if (Op.isCall(op) || op == Op.RETURN && flow.heightAt(place) != 1) {
                    return false;
                }
            }
            return true;
        }

        private void putInto(Image image, int host) {
            Code from = image.small.codes[host];
            Code into = whole.codes[host];
            into.clear();
            for (int place = 0; place < from.size; place++) {
                starts[place] = into.size;
                int target = targetAt(image, from, place);
                if (target != NONE && into.size + lengthOf(image.small, target) + from.size <= Machine.LONGEST_CODE) {
                    putCall(image.small, target, from.aAt(place), image.small.variablesOf(host), into);
                } else {
                    into.append(from.opAt(place), from.aAt(place), from.bAt(place));
                }
            }
            starts[from.size] = into.size;
            mendPlaces(from, into);
        }

        /** The method that alone can be begun there and that can be put in, or NONE. */
        private int targetAt(Image image, Code code, int place) {
            int op = code.opAt(place);
            if (!Op.isCall(op)) {
                return NONE;
            }
            int a = code.aAt(place);
            int b = code.bAt(place);
            int target = op == Op.CALL ? onlyTarget(image, a, b) : image.small.firstMethod(a, b);
            boolean isStatic = has(image.small.staticMethods, target);
            return has(leaves, target) && isStatic == (op == Op.SCALL) ? target : NONE;
        }

        /** What a CALL finds from all MADE classes alike, or NONE. */
        private static int onlyTarget(Image image, int a, int signature) {
            int only = NONE;
            boolean isFirst = true;
            for (int cls = 0; cls < MOST_CLASSES; cls++) {
                if (has(image.made, cls) && has(image.small.kinds(cls), a)) {
                    int found = image.small.firstMethod(cls, signature);
                    if (!isFirst && found != only) {
                        return NONE;
                    }
                    only = found;
                    isFirst = false;
                }
            }
            return only;
        }

        private static int lengthOf(Program small, int target) {
            int object = has(small.staticMethods, target) ? 0 : 4;
            return object + small.arityOf(target) + 1 + 2 * small.locals[target] + small.codes[target].size;
        }

        private static void putCall(Program small, int target, int a, int base, Code into) {
            boolean isStatic = has(small.staticMethods, target);
            int first = isStatic ? base : base + 1;
            int arity = small.arityOf(target);
            for (int argument = arity - 1; argument >= 0; argument--) {
                into.append(Op.STORE, first + argument, 0);
            }
            if (!isStatic) {
                // A DROP goes wrong with the object as the call would, and stores nothing.
                into.append(Op.DUP, 0, 0);
                into.append(Op.PUSH, 0, 0);
                into.append(Op.DROP, a, 0);
                into.append(Op.STORE, base, 0);
            }
            into.append(Op.BEGIN, target, 0);
            for (int local = 0; local < small.locals[target]; local++) {
                into.append(Op.PUSH, 0, 0);
                into.append(Op.STORE, first + arity + local, 0);
            }
            putBody(small.codes[target], base, into);
        }

        private static void putBody(Code body, int base, Code into) {
            int start = into.size;
            int end = start + body.size;
            for (int place = 0; place < body.size; place++) {
                int op = body.opAt(place);
                int a = body.aAt(place);
                if (op == Op.RETURN) {
                    into.append(Op.JUMP, end, 0);
                } else if (Op.tellsPlace(op)) {
                    into.append(op, start + a, 0);
                } else if (Op.tellsVariable(op)) {
                    into.append(op, base + a, 0);
                } else {
                    into.append(op, a, body.bAt(place));
                }
            }
        }

        private void mendPlaces(Code from, Code into) {
            for (int place = 0; place < from.size; place++) {
                int op = from.opAt(place);
                if (Op.tellsPlace(op)) {
                    into.put(starts[place], op, startOf(from.aAt(place)), 0);
                }
            }
            for (int guard = 0; guard < from.guards; guard++) {
                into.addGuard(startOf(from.froms[guard]), startOf(from.tos[guard]), startOf(from.handlers[guard]));
            }
        }

        private int startOf(int place) {
            return place >= 0 && place < starts.length ? starts[place] : 0;
        }
    }

    /** Looks after what must be so of a SHRUNK program. */
    private static final class Auditor {
        private static final int[] TOLD = {-1, 0, 1, 7};

        private final Machine machine;
        private final Flow flow;
        private final Inliner inliner;
        private final Image next;
        private final Report before;
        private final Report behind;

        private Auditor(Machine machine, Flow flow) {
            this.machine = machine;
            this.flow = flow;
            inliner = new Inliner(flow);
            next = new Image();
            before = new Report();
            behind = new Report();
        }

        /** Whether all is so that isSound() tells, but for what staysSame() looks at. */
        private boolean holds(Image image) {
            if (!namesAreUnlike(image) || !fieldNamesAreUnlike(image) || !comesFromLive(image)) {
                return false;
            }
            inliner.take(image);
            for (int method = 0; method < MOST_METHODS; method++) {
                for (int at = 0; has(image.small.entries, method) && at < TOLD.length; at++) {
                    if (!comesToSame(image, method, TOLD[at])) {
                        return false;
                    }
                }
            }
            return true;
        }

        /** Whether the SHRUNK program, shrunk as a program of its own, is like itself. */
        private boolean staysSame(Image image) {
            Program small = image.small;
            if (!flow.allSuit(small)) {
                return false;
            }
            next.take(small, flow);
            Program other = next.small;
            if (other.classes != small.classes || other.methods != small.methods || other.fields != small.fields) {
                return false;
            }
            for (int method = 0; method < MOST_METHODS; method++) {
                if (has(small.methods, method) && (!other.codes[method].isLike(small.codes[method])
                        || next.methodLetters[method] != image.methodLetters[method])) {
                    return false;
                }
            }
            return lettersAreLike(next.classLetters, image.classLetters, small.classes)
                    && lettersAreLike(next.fieldLetters, image.fieldLetters, small.fields);
        }

        private static boolean lettersAreLike(int[] some, int[] others, int there) {
            for (int number = 0; number < some.length && number < others.length; number++) {
                if (has(there, number) && some[number] != others[number]) {
                    return false;
                }
            }
            return true;
        }

        private boolean runAlike(Image image, int method, int told) {
            machine.perform(image.small, method, told, behind);
            machine.perform(image.was, method, told, before);
            return areReportsAlike();
        }

        private boolean areReportsAlike() {
            return before.hasSameResultAndOut(behind) && before.beats == behind.beats && before.hasSameTrace(behind);
        }

        private boolean comesToSame(Image image, int method, int told) {
            machine.perform(image.small, method, told, behind);
            machine.perform(image.was, method, told, before);
            if (!areReportsAlike() || behind.steps > before.steps) {
                return false;
            }
            machine.perform(inliner.whole, method, told, behind);
            return before.hasSameResultAndOut(behind);
        }

        private static boolean namesAreUnlike(Image image) {
            Program small = image.small;
            for (int one = 0; one < MOST_CLASSES; one++) {
                for (int other = 0; other < one; other++) {
                    if (has(small.classes, one) && has(small.classes, other)
                            && isSameLetter(image.classLetters[one], image.classLetters[other])) {
                        return false;
                    }
                }
            }
            for (int one = 0; one < MOST_METHODS; one++) {
                for (int other = 0; other < one; other++) {
                    if (has(small.methods, one) && has(small.methods, other)
                            && small.arityOf(one) == small.arityOf(other)
                            && small.signatures[one] != small.signatures[other]
                            && isSameLetter(image.methodLetters[one], image.methodLetters[other])) {
                        return false;
                    }
                }
            }
            return true;
        }

        /** What has no letter has the name that was typed, which is no letter and no other's. */
        private static boolean isSameLetter(int one, int other) {
            return one != NONE && one == other;
        }

        private static boolean fieldNamesAreUnlike(Image image) {
            Program small = image.small;
            for (int one = 0; one < MOST_FIELDS; one++) {
                for (int other = 0; other < MOST_FIELDS; other++) {
                    if (one != other && has(small.fields, one) && has(small.fields, other)
                            && has(small.kinds(small.fieldClass[one]), small.fieldClass[other])
                            && image.fieldLetters[one] == image.fieldLetters[other]) {
                        return false;
                    }
                }
            }
            return true;
        }

        private boolean comesFromLive(Image image) {
            for (int method = 0; method < MOST_METHODS; method++) {
                if (has(image.small.methods, method)) {
                    int live = flow.livePlaces(image.was.codes[method]);
                    Code code = image.small.codes[method];
                    for (int place = 0; place < code.size; place++) {
                        if (!has(live, code.originAt(place))) {
                            return false;
                        }
                    }
                }
            }
            return true;
        }
    }
}
