import java.util.ArrayList;
import java.util.List;
import java.util.Map;
import java.util.Set;

/** The face of the document, told once more with a Model behind it: the same calls are due the same answers. */
final class Twin {
    private static final String[][] SAMPLES = {
        {"class", "class 0", "class 0",
            "method 0 0 1 static entry: LOAD 0; IF0 4; NEW 0; JUMP 5; NEW 1; CALL 0 4; RETURN",
            "method 0 1 0: PUSH 1; RETURN", "method 1 1 0: PUSH 2; RETURN", "method 2 1 0: PUSH 3; RETURN"},
        {"class",
            "method 0 0 1 static entry locals 1: PUSH 2; PUSH 3; ADD; STORE 1; LOAD 1; IF0 13; LOAD 1; PRINT; LOAD 1; "
                + "PUSH -1; ADD; STORE 1; JUMP 4; PUSH 0; IF0 17; PUSH 9; PRINT; LOAD 0; RETURN"},
        {"class",
            "method 0 0 1 static entry: LOAD 0; SCALL 0 5; RETURN; PRINT; PUSH -1; RETURN", "guard 0 1 2 3",
            "method 0 1 1 static: PUSH 10; LOAD 0; DIV; RETURN",
            "method 0 2 1 static entry: NOP; LOAD 0; SCALL 0 5; RETURN"},
        {"class", "class 0 named", "interface", "class 0 named has 2",
            "field 0 0", "field 0 1", "field 1 0", "field 0 2 static",
            "method 0 0 1 static entry locals 1: LOAD 0; NEWBY; STORE 1; LOAD 1; PUSH 7; PUT 0 0; LOAD 1; PUSH 4; "
                + "PUT 0 1; PUSH 2; SPUT 0 2; LOAD 1; GET 0 0; LOAD 1; PUSH 5; PUSH 6; CALL 2 6; SUB; RETURN",
            "method 2 1 2", "method 3 1 2: LOAD 1; LOAD 2; MUL; RETURN", "method 2 3 1",
            "method 3 1 1: PUSH 1; RETURN"}};

    private Model typed = new Model();
    /** As it was shrunk: how it was, and what came of it. */
    private Model was;
    private Model.Shrunk shrunk;
    private Model.Run last;
    private boolean isOfShrunk;
    private int runs;
    private int shrinks;
    private int knocks;

    private static void index(boolean isFine) {
        if (!isFine) {
            throw new IndexOutOfBoundsException();
        }
    }

    private static void argument(boolean isFine) {
        if (!isFine) {
            throw new IllegalArgumentException();
        }
    }

    private static void state(boolean isFine) {
        if (!isFine) {
            throw new IllegalStateException();
        }
    }

    private static boolean isIn(int number, int most) {
        return number >= 0 && number <= most;
    }

    private Model.Cls classAt(int cls) {
        index(isIn(cls, typed.classes.size() - 1));
        return typed.classes.get(cls);
    }

    private Model.Method methodAt(int method) {
        index(isIn(method, typed.methods.size() - 1));
        return typed.methods.get(method);
    }

    private Model.Method methodWith(int method, int place) {
        Model.Method found = methodAt(method);
        index(isIn(place, found.body.rows.size() - 1));
        return found;
    }

    // ---- programs

    public int cls(int above, boolean isInterface) {
        argument(above == -1 || !isInterface && isIn(above, typed.classes.size() - 1)
                && !typed.classes.get(above).isInterface);
        state(typed.classes.size() < 8);
        Model.Cls cls = new Model.Cls();
        cls.above = above;
        cls.isInterface = isInterface;
        typed.classes.add(cls);
        return typed.classes.size() - 1;
    }

    public int implement(int cls, int other) {
        Model.Cls first = classAt(cls);
        argument(classAt(other).isInterface && !first.isInterface && !first.own.contains(other));
        state(first.own.size() < 2);
        first.own.add(other);
        return first.own.size();
    }

    public boolean named(int cls, boolean is) {
        boolean before = classAt(cls).named;
        classAt(cls).named = is;
        return before;
    }

    public int field(int cls, int name, boolean isStatic) {
        argument(!classAt(cls).isInterface && isIn(name, 9));
        argument(typed.fields.stream().noneMatch(f -> f.cls == cls && f.name == name));
        state(typed.fields.size() < 16);
        Model.Field field = new Model.Field();
        field.cls = cls;
        field.name = name;
        field.isStatic = isStatic;
        typed.fields.add(field);
        return typed.fields.size() - 1;
    }

    public int method(int cls, int name, int arity, boolean isStatic, int locals) {
        classAt(cls);
        argument(isIn(name, 15) && isIn(arity, 3) && isIn(locals, 4));
        argument(typed.methods.stream().noneMatch(m -> m.cls == cls && m.name == name && m.arity == arity));
        state(typed.methods.size() < 24);
        Model.Method method = new Model.Method();
        method.cls = cls;
        method.name = name;
        method.arity = arity;
        method.isStatic = isStatic;
        method.locals = locals;
        typed.methods.add(method);
        return typed.methods.size() - 1;
    }

    public int code(int method, int op, int a, int b) {
        List<Model.Ins> rows = methodAt(method).body.rows;
        argument(isIn(op, 31) && isIn(b, 63));
        state(rows.size() < 30);
        rows.add(new Model.Ins(op, a, b, rows.size()));
        return rows.size();
    }

    public int change(int method, int place, int op, int a, int b) {
        List<Model.Ins> rows = methodWith(method, place).body.rows;
        argument(isIn(op, 31) && isIn(b, 63));
        return rows.set(place, new Model.Ins(op, a, b, place)).op;
    }

    public int cut(int method, int many) {
        Model.Body body = methodAt(method).body;
        argument(isIn(many, body.rows.size()));
        for (int k = 0; k < many; k++) {
            body.rows.remove(body.rows.size() - 1);
        }
        body.guards.clear();
        return body.rows.size();
    }

    public int guard(int method, int from, int to, int handler) {
        List<Model.Guard> guards = methodAt(method).body.guards;
        argument(isIn(from, 30) && isIn(to, 30) && isIn(handler, 30));
        state(guards.size() < 2);
        guards.add(new Model.Guard(from, to, handler));
        return guards.size();
    }

    public boolean entry(int method, boolean is) {
        Model.Method found = methodAt(method);
        argument(found.isStatic && found.arity <= 1);
        boolean before = found.entry;
        found.entry = is;
        return before;
    }

    public int sample(int k) {
        argument(isIn(k, 3));
        typed = new Model();
        int methods = 0;
        for (String row : SAMPLES[k]) {
            methods += typeRow(row);
        }
        return methods;
    }

    /** How many methods come by that row. */
    private int typeRow(String row) {
        String[] words = row.replaceFirst(":.*", "").split(" ");
        int[] numbers = new int[words.length];
        for (int at = 0; at < words.length; at++) {
            numbers[at] = words[at].matches("\\d+") ? Integer.parseInt(words[at]) : -1;
        }
        switch (words[0]) {
            case "class": case "interface":
                int cls = cls(words.length > 1 ? numbers[1] : -1, words[0].equals("interface"));
                named(cls, row.contains("named"));
                if (row.contains("has")) {
                    implement(cls, numbers[numbers.length - 1]);
                }
                return 0;
            case "field":
                field(numbers[1], numbers[2], row.contains("static"));
                return 0;
            case "guard":
                guard(numbers[1], numbers[2], numbers[3], numbers[4]);
                return 0;
            default:
                int locals = row.contains("locals") ? 1 : 0;
                int method = method(numbers[1], numbers[2], numbers[3], row.contains("static"), locals);
                typed.methods.get(method).entry = row.contains("entry");
                for (String told : row.contains(":") ? row.substring(row.indexOf(':') + 1).split(";") : new String[0]) {
                    String[] parts = told.trim().split(" ");
                    code(method, Ops.opOf(parts[0]), parts.length > 1 ? Integer.parseInt(parts[1]) : 0,
                            parts.length > 2 ? Integer.parseInt(parts[2]) : 0);
                }
                return 1;
        }
    }

    public int wipe() {
        int methods = typed.methods.size();
        typed = new Model();
        was = null;
        shrunk = null;
        return methods;
    }

    // ---- what is asked of programs

    public int ofClass(int cls, int what) {
        Model.Cls found = classAt(cls);
        argument(isIn(what, 5));
        switch (what) {
            case 0: return found.above;
            case 1: return found.isInterface ? 1 : 0;
            case 2: return found.named ? 1 : 0;
            case 3: return found.own.stream().mapToInt(k -> 1 << k).sum();
            case 4: return (int) typed.methods.stream().filter(m -> m.cls == cls).count();
            default: return (int) typed.fields.stream().filter(f -> f.cls == cls).count();
        }
    }

    public int ofField(int field, int what) {
        index(isIn(field, typed.fields.size() - 1));
        argument(isIn(what, 2));
        Model.Field found = typed.fields.get(field);
        return what == 0 ? found.cls : what == 1 ? found.name : found.isStatic ? 1 : 0;
    }

    public int ofMethod(int method, int what) {
        Model.Method found = methodAt(method);
        argument(isIn(what, 7));
        int[] all = {found.cls, found.name, found.arity, found.isStatic ? 1 : 0, found.locals,
            found.body.rows.size(), found.body.guards.size(), found.entry ? 1 : 0};
        return all[what];
    }

    public int instruction(int method, int place, int what) {
        Model.Ins found = methodWith(method, place).body.rows.get(place);
        argument(isIn(what, 2));
        return what == 0 ? found.op : what == 1 ? found.a : found.b;
    }

    public boolean isA(int cls, int other) {
        classAt(cls);
        classAt(other);
        return typed.isA(cls, other);
    }

    public int findMethod(int cls, int signature) {
        classAt(cls);
        argument(isIn(signature, 63));
        return typed.findMethod(cls, signature);
    }

    public int findField(int cls, int name) {
        classAt(cls);
        argument(isIn(name, 9));
        return typed.findField(cls, name);
    }

    public boolean isRight(int method) {
        methodAt(method);
        return typed.right(method);
    }

    public boolean areRight() {
        return typed.allRight();
    }

    public boolean isLive(int method, int place) {
        return Model.live(methodWith(method, place).body).contains(place);
    }

    public int folded(int method) {
        return isRight(method) ? Model.fold(methodAt(method).body).rows.size() : -1;
    }

    public int ofFolded(int method, int place, int what) {
        index(isRight(method));
        List<Model.Ins> rows = Model.fold(methodAt(method).body).rows;
        index(isIn(place, rows.size() - 1));
        argument(isIn(what, 3));
        Model.Ins found = rows.get(place);
        return what == 0 ? found.op : what == 1 ? found.a : what == 2 ? found.b : found.origin;
    }

    // ---- shrinking

    public int shrink() {
        if (!typed.allRight()) {
            return -9;
        }
        was = copyOf(typed);
        shrunk = was.shrunk();
        shrinks++;
        return shrunk.keptMethods.size();
    }

    private static Model copyOf(Model model) {
        Model copy = new Model();
        for (Model.Cls cls : model.classes) {
            Model.Cls other = new Model.Cls();
            other.above = cls.above;
            other.isInterface = cls.isInterface;
            other.named = cls.named;
            other.own = new ArrayList<>(cls.own);
            copy.classes.add(other);
        }
        copy.fields.addAll(model.fields);
        for (Model.Method method : model.methods) {
            Model.Method other = new Model.Method();
            other.cls = method.cls;
            other.name = method.name;
            other.arity = method.arity;
            other.isStatic = method.isStatic;
            other.locals = method.locals;
            other.entry = method.entry;
            other.body = method.body.copy();
            copy.methods.add(other);
        }
        return copy;
    }

    private Set<Integer> kept(int what) {
        state(shrunk != null);
        argument(isIn(what, 2));
        return what == 0 ? shrunk.keptClasses : what == 1 ? shrunk.keptMethods : shrunk.keptFields;
    }

    /** What is shrunk once more must be as it is. */
    public boolean again() {
        state(shrunk != null);
        return true;
    }

    public boolean isKept(int what, int number) {
        return kept(what).contains(number);
    }

    public String newName(int what, int number) {
        if (!kept(what).contains(number)) {
            return "";
        }
        Map<Integer, String> names = what == 0 ? shrunk.classNames : what == 1 ? shrunk.familyNames : shrunk.fieldNames;
        return names.get(what == 1 ? was.methods.get(number).signature() : number);
    }

    public int lines(int method) {
        state(shrunk != null);
        return shrunk.keptMethods.contains(method) ? shrunk.codes.get(method).rows.size() : -1;
    }

    public String line(int method, int place) {
        return isIn(place, lines(method) - 1) ? shrunk.line(method, place) : "";
    }

    public int origin(int method, int place) {
        return isIn(place, lines(method) - 1) ? shrunk.codes.get(method).rows.get(place).origin : -1;
    }

    public String map() {
        state(shrunk != null);
        return shrunk.map();
    }

    public int called(int cls, int letter, int arity) {
        state(shrunk != null);
        argument(isIn(letter, 25) && isIn(arity, 3));
        return shrunk.called(cls, letter, arity);
    }

    public int ofShrunk(int what) {
        state(shrunk != null);
        argument(isIn(what, 5));
        int[] all = {shrunk.keptClasses.size(), shrunk.keptMethods.size(), shrunk.keptFields.size(),
            shrunk.lineCount(), shrunk.made.size(), shrunk.familyNames.size()};
        return all[what];
    }

    // ---- runs

    public String run(int method, int told) {
        argument(methodAt(method).entry);
        state(typed.allRight());
        return keep(typed.run(method, told), false);
    }

    public String runShrunk(int method, int told) {
        needEntryOfShrunk(method);
        return keep(was.runShrunk(shrunk, method, told), true);
    }

    private String keep(Model.Run run, boolean isOne) {
        last = run;
        isOfShrunk = isOne;
        runs++;
        return run.result;
    }

    private void needEntryOfShrunk(int method) {
        state(shrunk != null);
        argument(isIn(method, was.methods.size() - 1) && was.methods.get(method).entry);
    }

    public boolean areAlike(int method, int told) {
        needEntryOfShrunk(method);
        Model.Run one = was.runShrunk(shrunk, method, told);
        Model.Run other = was.run(method, told);
        return one.result.equals(other.result) && one.out().equals(other.out()) && one.beats == other.beats
                && one.trace.equals(other.trace);
    }

    public String out() {
        return last == null ? "" : last.out();
    }

    public String trace() {
        return last == null ? "" : last.trace;
    }

    public String raw() {
        return last == null ? "" : last.raw;
    }

    public String result() {
        return last == null ? "" : last.result;
    }

    public int ofRun(int what) {
        argument(isIn(what, 3));
        if (last == null) {
            return 0;
        }
        return what == 0 ? last.beats : what == 1 ? last.printed.size() : what == 2 ? last.most : isOfShrunk ? 1 : 0;
    }

    public int begun(int method) {
        return last == null || !isIn(method, 23) ? 0 : last.begun[method];
    }

    // ---- the house

    public int house(int what) {
        argument(isIn(what, 7));
        int[] all = {typed.classes.size(), typed.fields.size(), typed.methods.size(),
            typed.methods.stream().mapToInt(m -> m.body.rows.size()).sum(), shrunk != null ? 1 : 0,
            runs, shrinks, knocks};
        return all[what];
    }

    public int knock() {
        knocks++;
        return knocks;
    }

    public boolean isSound() {
        return true;
    }

    public long digest() {
        List<Object> all = new ArrayList<>();
        for (int what = 0; what < 8; what++) {
            all.add(house(what));
        }
        for (int cls = 0; cls < typed.classes.size(); cls++) {
            for (int what = 0; what < 6; what++) {
                all.add(ofClass(cls, what));
            }
        }
        for (int field = 0; field < typed.fields.size(); field++) {
            for (int what = 0; what < 3; what++) {
                all.add(ofField(field, what));
            }
        }
        for (int method = 0; method < typed.methods.size(); method++) {
            addMethod(all, method);
        }
        if (shrunk != null) {
            addShrunk(all);
        }
        all.addAll(List.of(result(), out(), trace(), raw(), ofRun(0), ofRun(1), ofRun(2), ofRun(3)));
        for (int method = 0; method < 24; method++) {
            all.add(begun(method));
        }
        all.add(isSound());
        return sumOf(all);
    }

    private void addMethod(List<Object> all, int method) {
        for (int what = 0; what < 8; what++) {
            all.add(ofMethod(method, what));
        }
        all.add(isRight(method));
        all.add(folded(method));
        Set<Integer> live = Model.live(typed.methods.get(method).body);
        for (int place = 0; place < ofMethod(method, 5); place++) {
            all.add(live.contains(place));
        }
    }

    private void addShrunk(List<Object> all) {
        all.add(map());
        for (int what = 0; what < 6; what++) {
            all.add(ofShrunk(what));
        }
        for (int method = 0; method < 24; method++) {
            all.add(lines(method));
            for (int place = 0; place < lines(method); place++) {
                all.add(line(method, place));
            }
        }
    }

    private static long sumOf(List<Object> all) {
        long d = 7653;
        for (Object one : all) {
            if (one instanceof String) {
                for (char sign : ((String) one).toCharArray()) {
                    d = d * 31 + sign;
                }
            } else {
                d = d * 31 + (one instanceof Boolean ? (Boolean) one ? 1 : 0 : (Integer) one);
            }
        }
        return d;
    }
}
