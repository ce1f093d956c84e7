import java.util.ArrayList;
import java.util.Collection;
import java.util.HashMap;
import java.util.HashSet;
import java.util.List;
import java.util.Map;
import java.util.Set;
import java.util.TreeSet;

/** The document told once more, with the whole Java library and no thought of speed, to compare with. */
final class Model {
    static final class Ins {
        int op;
        int a;
        int b;
        int origin;

        Ins(int op, int a, int b, int origin) {
            this.op = op;
            this.a = needsA(op) ? a : 0;
            this.b = needsB(op) ? b : 0;
            this.origin = origin;
        }
    }

    static final class Guard {
        int from;
        int to;
        int handler;

        Guard(int from, int to, int handler) {
            this.from = from;
            this.to = to;
            this.handler = handler;
        }
    }

    static final class Body {
        List<Ins> rows = new ArrayList<>();
        List<Guard> guards = new ArrayList<>();

        Body copy() {
            Body other = new Body();
            for (Ins i : rows) {
                Ins copied = new Ins(i.op, i.a, i.b, i.origin);
                copied.a = i.a;
                copied.b = i.b;
                other.rows.add(copied);
            }
            for (Guard g : guards) {
                other.guards.add(new Guard(g.from, g.to, g.handler));
            }
            return other;
        }
    }

    static final class Cls {
        int above;
        boolean isInterface;
        boolean named;
        List<Integer> own = new ArrayList<>();
    }

    static final class Field {
        int cls;
        int name;
        boolean isStatic;
    }

    static final class Method {
        int cls;
        int name;
        int arity;
        boolean isStatic;
        int locals;
        boolean entry;
        Body body = new Body();

        int signature() {
            return name * 4 + arity;
        }
    }

    final List<Cls> classes = new ArrayList<>();
    final List<Field> fields = new ArrayList<>();
    final List<Method> methods = new ArrayList<>();

    static boolean needsA(int op) {
        return !List.of(3, 4, 5, 6, 7, 8, 9, 10, 11, 12, 13, 16, 18, 28, 29, 30, 31).contains(op);
    }

    static boolean needsB(int op) {
        return op >= 19 && op <= 25;
    }

    boolean isA(int cls, int other) {
        if (cls == other) {
            return true;
        }
        Cls c = classes.get(cls);
        if (c.above >= 0 && isA(c.above, other)) {
            return true;
        }
        for (int i : c.own) {
            if (isA(i, other)) {
                return true;
            }
        }
        return false;
    }

    List<Integer> upward(int cls) {
        List<Integer> row = new ArrayList<>();
        for (int c = cls; c >= 0; c = classes.get(c).above) {
            row.add(c);
        }
        return row;
    }

    int findMethod(int cls, int signature) {
        for (int c : upward(cls)) {
            for (int m = 0; m < methods.size(); m++) {
                if (methods.get(m).cls == c && methods.get(m).signature() == signature) {
                    return m;
                }
            }
        }
        return -1;
    }

    int findField(int cls, int name) {
        for (int c : upward(cls)) {
            for (int f = 0; f < fields.size(); f++) {
                if (fields.get(f).cls == c && fields.get(f).name == name) {
                    return f;
                }
            }
        }
        return -1;
    }

    static Set<Integer> live(Body body) {
        Set<Integer> seen = new TreeSet<>();
        visit(body, 0, seen);
        return seen;
    }

    private static void visit(Body body, int place, Set<Integer> seen) {
        if (place < 0 || place >= body.rows.size() || !seen.add(place)) {
            return;
        }
        Ins i = body.rows.get(place);
        if (i.op != 14 && i.op != 28 && i.op != 29) {
            visit(body, place + 1, seen);
        }
        if (i.op == 14 || i.op == 15) {
            visit(body, i.a, seen);
        }
        for (Guard g : body.guards) {
            if (g.from <= place && place < g.to) {
                visit(body, g.handler, seen);
            }
        }
    }

    static int takes(Ins i) {
        switch (i.op) {
            case 2: case 3: case 4: case 13: case 15: case 18: case 19: case 22: case 26: case 27: case 28:
            case 29: case 30:
                return 1;
            case 5: case 6: case 7: case 8: case 9: case 10: case 11: case 12: case 20:
                return 2;
            case 23: case 24:
                return 1 + i.b % 4;
            case 25:
                return i.b % 4;
            default:
                return 0;
        }
    }

    static int puts(Ins i) {
        switch (i.op) {
            case 0: case 1: case 6: case 7: case 8: case 9: case 10: case 11: case 12: case 13: case 16: case 17:
            case 18: case 19: case 21: case 23: case 24: case 25: case 26: case 27:
                return 1;
            case 4: case 5:
                return 2;
            default:
                return 0;
        }
    }

    boolean right(int method) {
        Method m = methods.get(method);
        int n = m.body.rows.size();
        if (n == 0) {
            return !m.entry && m.body.guards.isEmpty();
        }
        if (classes.get(m.cls).isInterface) {
            return false;
        }
        for (Guard g : m.body.guards) {
            if (g.handler < 0 || g.handler >= n || g.from < 0 || g.to > n || g.from >= g.to) {
                return false;
            }
        }
        int variables = (m.isStatic ? 0 : 1) + m.arity + m.locals;
        for (Ins i : m.body.rows) {
            if ((i.op == 14 || i.op == 15) && (i.a < 0 || i.a >= n)) {
                return false;
            }
            if ((i.op == 1 || i.op == 2) && (i.a < 0 || i.a >= variables)) {
                return false;
            }
            if ((i.op == 17 || i.op >= 19 && i.op <= 27) && (i.a < 0 || i.a >= classes.size())) {
                return false;
            }
        }
        Map<Integer, Integer> heights = new HashMap<>();
        return heightsFit(m.body, 0, 0, heights);
    }

    private boolean heightsFit(Body body, int place, int height, Map<Integer, Integer> heights) {
        if (place >= body.rows.size()) {
            return false;
        }
        if (heights.containsKey(place)) {
            return heights.get(place) == height;
        }
        heights.put(place, height);
        Ins i = body.rows.get(place);
        if (height < takes(i)) {
            return false;
        }
        int behind = height - takes(i) + puts(i);
        if (behind > 12) {
            return false;
        }
        boolean fits = true;
        if (i.op != 14 && i.op != 28 && i.op != 29) {
            fits = heightsFit(body, place + 1, behind, heights);
        }
        if (i.op == 14 || i.op == 15) {
            fits = fits && heightsFit(body, i.a, behind, heights);
        }
        for (Guard g : body.guards) {
            if (g.from <= place && place < g.to) {
                fits = fits && heightsFit(body, g.handler, 1, heights);
            }
        }
        return fits;
    }

    boolean allRight() {
        boolean entry = false;
        for (int m = 0; m < methods.size(); m++) {
            if (!right(m)) {
                return false;
            }
            entry |= methods.get(m).entry;
        }
        return entry;
    }

    static void takeOut(Body body, int place) {
        body.rows.remove(place);
        for (Ins i : body.rows) {
            if ((i.op == 14 || i.op == 15) && i.a > place) {
                i.a--;
            }
        }
        for (Guard g : body.guards) {
            g.from -= g.from > place ? 1 : 0;
            g.to -= g.to > place ? 1 : 0;
            g.handler -= g.handler > place ? 1 : 0;
        }
        body.guards.removeIf(g -> g.from == g.to);
    }

    static boolean goneTo(Body body, int place) {
        for (Ins i : body.rows) {
            if ((i.op == 14 || i.op == 15) && i.a == place) {
                return true;
            }
        }
        for (Guard g : body.guards) {
            if (g.handler == place) {
                return true;
            }
        }
        return false;
    }

    static Body fold(Body typed) {
        Body body = typed.copy();
        while (true) {
            Set<Integer> live = live(body);
            for (int p = body.rows.size() - 1; p >= 0; p--) {
                if (!live.contains(p)) {
                    takeOut(body, p);
                }
            }
            boolean done = false;
            for (int p = 0; p < body.rows.size() && !done; p++) {
                done = foldAt(body, p);
            }
            if (!done) {
                return body;
            }
        }
    }

    private static boolean foldAt(Body body, int p) {
        List<Ins> rows = body.rows;
        Ins first = rows.get(p);
        Ins second = p + 1 < rows.size() ? rows.get(p + 1) : null;
        Ins third = p + 2 < rows.size() ? rows.get(p + 2) : null;
        if (first.op == 31) {
            takeOut(body, p);
            return true;
        }
        boolean free = second != null && !goneTo(body, p + 1);
        if (free && first.op == 0 && second.op == 13) {
            first.a = -first.a;
            takeOut(body, p + 1);
            return true;
        }
        if (free && first.op == 0 && second.op == 0 && third != null && third.op >= 6 && third.op <= 12
                && !goneTo(body, p + 2) && !((third.op == 9 || third.op == 10) && second.a == 0)) {
            first.a = reckon(third.op, first.a, second.a);
            takeOut(body, p + 2);
            takeOut(body, p + 1);
            return true;
        }
        if (free && first.op == 0 && second.op == 15) {
            if (first.a == 0) {
                first.op = 14;
                first.a = second.a;
                takeOut(body, p + 1);
            } else {
                takeOut(body, p + 1);
                takeOut(body, p);
            }
            return true;
        }
        if (free && (first.op == 0 || first.op == 1 || first.op == 16) && second.op == 3) {
            takeOut(body, p + 1);
            takeOut(body, p);
            return true;
        }
        if (first.op == 14 && first.a == p + 1) {
            takeOut(body, p);
            return true;
        }
        return false;
    }

    static int reckon(int op, int x, int y) {
        switch (op) {
            case 6: return x + y;
            case 7: return x - y;
            case 8: return x * y;
            case 9: return x / y;
            case 10: return x % y;
            case 11: return x < y ? 1 : 0;
            default: return x == y ? 1 : 0;
        }
    }

    /** The SHRUNK program: sets and codes, by the numbers as they were typed. */
    final class Shrunk {
        final Set<Integer> made = new TreeSet<>();
        final Set<Integer> keptClasses = new TreeSet<>();
        final Set<Integer> keptMethods = new TreeSet<>();
        final Set<Integer> keptFields = new TreeSet<>();
        final Map<Integer, Body> codes = new HashMap<>();
        final Map<Integer, String> classNames = new HashMap<>();
        final Map<Integer, String> familyNames = new HashMap<>();
        final Map<Integer, String> fieldNames = new HashMap<>();

        Shrunk() {
            keep();
            drop();
            name();
        }

        private int size() {
            return made.size() + keptClasses.size() + keptMethods.size() + keptFields.size();
        }

        private void keep() {
            int before = -1;
            while (before != size()) {
                before = size();
                for (int m = 0; m < methods.size(); m++) {
                    if (methods.get(m).entry) {
                        keptMethods.add(m);
                    }
                }
                for (int c = 0; c < classes.size(); c++) {
                    if (classes.get(c).named) {
                        keptClasses.add(c);
                        if (!classes.get(c).isInterface) {
                            made.add(c);
                        }
                    }
                }
                for (int m : new ArrayList<>(keptMethods)) {
                    keptClasses.add(methods.get(m).cls);
                    for (Ins i : fold(methods.get(m).body).rows) {
                        keepFor(i);
                    }
                }
                for (int f : keptFields) {
                    keptClasses.add(fields.get(f).cls);
                }
                keptClasses.addAll(made);
                for (int c : new ArrayList<>(keptClasses)) {
                    if (classes.get(c).above >= 0) {
                        keptClasses.add(classes.get(c).above);
                    }
                    keptClasses.addAll(classes.get(c).own);
                }
            }
        }

        private void keepFor(Ins i) {
            if (i.op == 17 || i.op >= 19 && i.op <= 27) {
                keptClasses.add(i.a);
            }
            if (i.op == 17 && !classes.get(i.a).isInterface) {
                made.add(i.a);
            }
            if (i.op == 24 || i.op == 25) {
                addIfThere(keptMethods, findMethod(i.a, i.b));
            }
            if (i.op == 23) {
                for (int c : made) {
                    if (isA(c, i.a)) {
                        addIfThere(keptMethods, findMethod(c, i.b));
                    }
                }
            }
            if (i.op >= 19 && i.op <= 22) {
                int f = findField(i.a, i.b);
                boolean wrong = f >= 0 && fields.get(f).isStatic != (i.op >= 21);
                if (i.op == 19 || i.op == 21 || wrong) {
                    addIfThere(keptFields, f);
                }
            }
        }

        private void addIfThere(Collection<Integer> set, int number) {
            if (number >= 0) {
                set.add(number);
            }
        }

        private void drop() {
            for (int m : keptMethods) {
                Body body = fold(methods.get(m).body);
                for (Ins i : body.rows) {
                    if (i.op == 20 || i.op == 22) {
                        int f = findField(i.a, i.b);
                        if (f >= 0 && fields.get(f).isStatic == (i.op == 22) && !keptFields.contains(f)) {
                            i.op = i.op == 20 ? 32 : 33;
                            i.b = 0;
                        }
                    }
                }
                codes.put(m, body);
            }
        }

        private void name() {
            Set<Integer> stay = new HashSet<>();
            Set<Integer> stayingFamilies = new HashSet<>();
            for (Method m : methods) {
                if (m.entry) {
                    stay.add(m.cls);
                    stayingFamilies.add(m.signature());
                }
            }
            char next = 'a';
            for (int c : keptClasses) {
                boolean keeps = stay.contains(c) || classes.get(c).named;
                classNames.put(c, keeps ? "C" + c : String.valueOf(next++));
            }
            char[] nexts = {'a', 'a', 'a', 'a'};
            for (int m : keptMethods) {
                Method method = methods.get(m);
                if (!familyNames.containsKey(method.signature())) {
                    boolean keeps = stayingFamilies.contains(method.signature());
                    familyNames.put(method.signature(),
                            keeps ? "m" + method.name : String.valueOf(nexts[method.arity]++));
                }
            }
            for (int c : keptClasses) {
                char first = 'a';
                for (int up : upward(c)) {
                    char last = 0;
                    for (int f : keptFields) {
                        if (up != c && fields.get(f).cls == up) {
                            last = fieldNames.get(f).charAt(0);
                        }
                    }
                    if (last != 0) {
                        first = (char) (last + 1);
                        break;
                    }
                }
                for (int f : keptFields) {
                    if (fields.get(f).cls == c) {
                        fieldNames.put(f, String.valueOf(first++));
                    }
                }
            }
        }

        String line(int m, int place) {
            Ins i = codes.get(m).rows.get(place);
            String word = Ops.word(i.op);
            switch (i.op) {
                case 0: case 1: case 2: case 14: case 15:
                    return word + " " + i.a;
                case 17: case 26: case 27: case 32: case 33:
                    return word + " " + classNames.get(i.a);
                case 19: case 20: case 21: case 22: {
                    int f = findField(i.a, i.b);
                    boolean fits = f >= 0 && fields.get(f).isStatic == (i.op >= 21);
                    return word + " " + classNames.get(i.a) + "." + (fits ? fieldNames.get(f) : "-");
                }
                case 23: case 24: case 25:
                    return word + " " + classNames.get(i.a) + "."
                            + familyNames.getOrDefault(i.b, "-") + "/" + i.b % 4;
                default:
                    return word;
            }
        }

        String map() {
            StringBuilder text = new StringBuilder();
            for (int c : keptClasses) {
                text.append("C").append(c).append(">").append(classNames.get(c)).append(":");
                for (int f : keptFields) {
                    if (fields.get(f).cls == c) {
                        text.append(" f").append(fields.get(f).name).append(">").append(fieldNames.get(f));
                    }
                }
                for (int m : keptMethods) {
                    Method method = methods.get(m);
                    if (method.cls == c) {
                        text.append(" m").append(method.name).append("/").append(method.arity).append(">");
                        text.append(familyNames.get(method.signature()));
                    }
                }
                text.append(";");
            }
            return text.toString();
        }

        int called(int cls, int letter, int arity) {
            if (!keptClasses.contains(cls)) {
                return -1;
            }
            for (int c : upward(cls)) {
                for (int m : keptMethods) {
                    Method method = methods.get(m);
                    if (method.cls == c && method.arity == arity && familyNames.get(method.signature())
                            .equals(String.valueOf((char) ('a' + letter)))) {
                        return m;
                    }
                }
            }
            return -1;
        }

        int lineCount() {
            int count = 0;
            for (Body body : codes.values()) {
                count += body.rows.size();
            }
            return count;
        }
    }

    Shrunk shrunk() {
        return new Shrunk();
    }

    static final class Obj {
        final int cls;
        final Map<Integer, Object> cells = new HashMap<>();

        Obj(int cls) {
            this.cls = cls;
        }
    }

    /** A method that goes on; something that went wrong is a Wrong, and an OPEN run is an Open. */
    static final class Wrong extends Exception {
        final int kind;
        final int x;

        Wrong(int kind, int x) {
            this.kind = kind;
            this.x = x;
        }
    }

    static final class Open extends Exception {
    }

    /** A run, by recursion: a call of the program is a call of Java. */
    final class Run {
        final Map<Integer, Body> codes;
        final Shrunk names;
        final Map<Integer, Object> statics = new HashMap<>();
        final List<Integer> printed = new ArrayList<>();
        final int[] begun = new int[24];
        final List<int[]> goingOn = new ArrayList<>();
        int beats;
        int most;
        String result = "";
        String trace = "";
        String raw = "";

        Run(Map<Integer, Body> codes, Shrunk names, int entry, int told) {
            this.codes = codes;
            this.names = names;
            try {
                List<Object> args = new ArrayList<>();
                if (methods.get(entry).arity == 1) {
                    args.add(told);
                }
                Object x = perform(entry, args);
                result = x == null ? "=null" : x instanceof Obj ? "=C" + ((Obj) x).cls : "=" + x;
                trace = "";
                raw = "";
            } catch (Wrong wrong) {
                result = "!" + wrong.kind + (wrong.kind == 6 ? ":" + wrong.x : "");
            } catch (Open open) {
                result = "?";
                trace = "";
                raw = "";
            }
        }

        String out() {
            StringBuilder text = new StringBuilder();
            for (int i = 0; i < printed.size() && i < 60; i++) {
                text.append(i == 0 ? "" : " ").append(printed.get(i));
            }
            return text.toString();
        }

        private void beat() throws Open {
            if (beats == 300) {
                throw new Open();
            }
            beats++;
        }

        private void remember() {
            StringBuilder typed = new StringBuilder();
            StringBuilder shrunk = new StringBuilder();
            for (int i = goingOn.size() - 1; i >= 0; i--) {
                int[] frame = goingOn.get(i);
                Method m = methods.get(frame[0]);
                String blank = typed.length() == 0 ? "" : " ";
                typed.append(blank).append("C").append(m.cls).append(".m").append(m.name).append("/").append(m.arity)
                        .append(":").append(codes.get(frame[0]).rows.get(frame[1]).origin);
                if (names != null) {
                    shrunk.append(blank).append(names.classNames.get(m.cls)).append(".")
                            .append(names.familyNames.get(m.signature())).append("/").append(m.arity)
                            .append(":").append(frame[1]);
                }
            }
            trace = typed.toString();
            raw = names == null ? trace : shrunk.toString();
        }

        private Object perform(int method, List<Object> args) throws Wrong, Open {
            int[] frame = {method, 0};
            goingOn.add(frame);
            begun[method]++;
            most = Math.max(most, goingOn.size());
            Method m = methods.get(method);
            List<Object> variables = new ArrayList<>(args);
            for (int l = 0; l < m.locals; l++) {
                variables.add(0);
            }
            List<Object> stack = new ArrayList<>();
            Body body = codes.get(method);
            while (true) {
                try {
                    Ins i = body.rows.get(frame[1]);
                    if (i.op == 29) {
                        goingOn.remove(goingOn.size() - 1);
                        return take(stack);
                    }
                    step(i, frame, variables, stack);
                } catch (Wrong wrong) {
                    Guard found = null;
                    for (Guard g : body.guards) {
                        if (found == null && g.from <= frame[1] && frame[1] < g.to) {
                            found = g;
                        }
                    }
                    if (found == null) {
                        goingOn.remove(goingOn.size() - 1);
                        throw wrong;
                    }
                    beat();
                    stack.clear();
                    stack.add(wrong.kind == 6 ? wrong.x : -wrong.kind);
                    frame[1] = found.handler;
                }
            }
        }

        private Object take(List<Object> stack) {
            return stack.remove(stack.size() - 1);
        }

        private Wrong wrong(int kind) {
            return wrong(kind, 0);
        }

        private Wrong wrong(int kind, int x) {
            remember();
            return new Wrong(kind, x);
        }

        private int anInt(Object x) throws Wrong {
            if (!(x instanceof Integer)) {
                throw wrong(3);
            }
            return (Integer) x;
        }

        private Obj anObject(Object x, int a) throws Wrong {
            if (x == null) {
                throw wrong(1);
            }
            if (x instanceof Integer) {
                throw wrong(3);
            }
            if (!isA(((Obj) x).cls, a)) {
                throw wrong(4);
            }
            return (Obj) x;
        }

        private void step(Ins i, int[] frame, List<Object> variables, List<Object> stack) throws Wrong, Open {
            int next = frame[1] + 1;
            switch (i.op) {
                case 0: stack.add(i.a); break;
                case 1: stack.add(variables.get(i.a)); break;
                case 2: variables.set(i.a, take(stack)); break;
                case 3: case 33: take(stack); break;
                case 4: stack.add(stack.get(stack.size() - 1)); break;
                case 5: { Object y = take(stack); Object x = take(stack); stack.add(y); stack.add(x); break; }
                case 6: case 7: case 8: case 9: case 10: case 11: {
                    Object y = take(stack);
                    Object x = take(stack);
                    int xi = anInt(x);
                    int yi = anInt(y);
                    if ((i.op == 9 || i.op == 10) && yi == 0) {
                        throw wrong(2);
                    }
                    stack.add(reckon(i.op, xi, yi));
                    break;
                }
                case 12: {
                    Object y = take(stack);
                    Object x = take(stack);
                    stack.add(x instanceof Integer ? (x.equals(y) ? 1 : 0) : x == y ? 1 : 0);
                    break;
                }
                case 13: stack.add(-anInt(take(stack))); break;
                case 14: next = go(i, frame); break;
                case 15: if (anInt(take(stack)) == 0) { next = go(i, frame); } break;
                case 16: stack.add(null); break;
                case 30: printed.add(anInt(take(stack))); break;
                case 28: throw wrong(6, anInt(take(stack)));
                case 23: case 24: case 25: call(i, stack); break;
                case 31: break;
                default: objects(i, stack); break;
            }
            frame[1] = next;
        }

        private int go(Ins i, int[] frame) throws Open {
            if (i.a <= frame[1]) {
                beat();
            }
            return i.a;
        }

        private void objects(Ins i, List<Object> stack) throws Wrong {
            switch (i.op) {
                case 17:
                    if (classes.get(i.a).isInterface) {
                        throw wrong(5);
                    }
                    stack.add(new Obj(i.a));
                    break;
                case 18: {
                    int c = anInt(take(stack));
                    if (c < 0 || c >= classes.size() || classes.get(c).isInterface || !classes.get(c).named) {
                        throw wrong(5);
                    }
                    stack.add(new Obj(c));
                    break;
                }
                case 19: {
                    Obj o = anObject(take(stack), i.a);
                    stack.add(o.cells.getOrDefault(cell(i, false), 0));
                    break;
                }
                case 20: {
                    Object y = take(stack);
                    Obj o = anObject(take(stack), i.a);
                    o.cells.put(cell(i, false), y);
                    break;
                }
                case 21: stack.add(statics.getOrDefault(cell(i, true), 0)); break;
                case 22: { Object y = take(stack); statics.put(cell(i, true), y); break; }
                case 26: {
                    Object x = take(stack);
                    if (x != null) {
                        anObject(x, i.a);
                    }
                    stack.add(x);
                    break;
                }
                case 27: {
                    Object x = take(stack);
                    stack.add(x instanceof Obj && isA(((Obj) x).cls, i.a) ? 1 : 0);
                    break;
                }
                case 32: take(stack); anObject(take(stack), i.a); break;
                default: throw new IllegalStateException("op " + i.op);
            }
        }

        private int cell(Ins i, boolean isStatic) throws Wrong {
            int f = findField(i.a, i.b);
            if (f < 0 || fields.get(f).isStatic != isStatic) {
                throw wrong(5);
            }
            return f;
        }

        private void call(Ins i, List<Object> stack) throws Wrong, Open {
            List<Object> args = new ArrayList<>();
            for (int k = 0; k < i.b % 4; k++) {
                args.add(0, take(stack));
            }
            int from = i.a;
            if (i.op != 25) {
                Object x = take(stack);
                Obj o = anObject(x, i.a);
                args.add(0, o);
                from = i.op == 23 ? o.cls : i.a;
            }
            int m = findMethod(from, i.b);
            if (m < 0 || methods.get(m).body.rows.isEmpty() || methods.get(m).isStatic != (i.op == 25)) {
                throw wrong(5);
            }
            if (goingOn.size() == 12) {
                throw wrong(7);
            }
            beat();
            stack.add(perform(m, args));
        }
    }

    Run run(int entry, int told) {
        Map<Integer, Body> codes = new HashMap<>();
        for (int m = 0; m < methods.size(); m++) {
            codes.put(m, methods.get(m).body);
        }
        return new Run(codes, null, entry, told);
    }

    Run runShrunk(Shrunk shrunk, int entry, int told) {
        return new Run(shrunk.codes, shrunk, entry, told);
    }
}
