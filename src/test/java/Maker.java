import java.util.ArrayList;
import java.util.List;
import java.util.Random;

/** Makes random programs, typed into a Shrinkforge and told to a Model alike. Most of them are RIGHT. */
final class Maker {
    private final Random random;
    private final Shrinkforge x;
    private final Model model;
    private final int size;

    Maker(long seed, Shrinkforge x, Model model, int size) {
        this.random = new Random(seed);
        this.x = x;
        this.model = model;
        this.size = size;
    }

    private boolean oneOf(int many) {
        return random.nextInt(many) == 0;
    }

    void make() {
        int classes = 1 + random.nextInt(size > 3 ? 8 : 4);
        for (int c = 0; c < classes; c++) {
            makeClass();
        }
        int fields = random.nextInt(size > 3 ? 17 : 7);
        for (int f = 0; f < fields; f++) {
            makeField();
        }
        int methods = 1 + random.nextInt(size > 3 ? 24 : 8);
        for (int m = 0; m < methods; m++) {
            makeMethod(m == 0);
        }
        for (int m = 0; m < model.methods.size(); m++) {
            makeCode(m);
        }
    }

    private void makeClass() {
        int number = model.classes.size();
        boolean isInterface = number > 0 && oneOf(4);
        int above = -1;
        if (!isInterface && !oneOf(3) && number > 0) {
            above = random.nextInt(number);
            if (model.classes.get(above).isInterface) {
                above = -1;
            }
        }
        Model.Cls cls = new Model.Cls();
        cls.above = above;
        cls.isInterface = isInterface;
        cls.named = oneOf(3);
        model.classes.add(cls);
        x.cls(above, isInterface);
        x.named(number, cls.named);
        for (int other = 0; other <= number; other++) {
            if (oneOf(3)) {
                implement(number, other);
                implement(other, number);
            }
        }
    }

    private void implement(int cls, int other) {
        Model.Cls c = model.classes.get(cls);
        if (!c.isInterface && model.classes.get(other).isInterface && c.own.size() < 2 && !c.own.contains(other)) {
            c.own.add(other);
            x.implement(cls, other);
        }
    }

    private void makeField() {
        Model.Field field = new Model.Field();
        field.cls = random.nextInt(model.classes.size());
        field.name = random.nextInt(size > 3 ? 10 : 3);
        field.isStatic = oneOf(3);
        if (model.classes.get(field.cls).isInterface) {
            return;
        }
        for (Model.Field other : model.fields) {
            if (other.cls == field.cls && other.name == field.name) {
                return;
            }
        }
        model.fields.add(field);
        x.field(field.cls, field.name, field.isStatic);
    }

    private void makeMethod(boolean isFirst) {
        Model.Method method = new Model.Method();
        method.cls = random.nextInt(model.classes.size());
        method.name = random.nextInt(3);
        method.arity = random.nextInt(oneOf(2) ? 2 : 4);
        method.isStatic = oneOf(3);
        method.locals = random.nextInt(3);
        if (isFirst) {
            method.cls = 0;
            method.arity = 1;
            method.isStatic = true;
        }
        for (Model.Method other : model.methods) {
            if (other.cls == method.cls && other.signature() == method.signature()) {
                return;
            }
        }
        method.entry = isFirst || method.isStatic && method.arity <= 1 && oneOf(4)
                && !model.classes.get(method.cls).isInterface;
        model.methods.add(method);
        int number = x.method(method.cls, method.name, method.arity, method.isStatic, method.locals);
        if (method.entry) {
            x.entry(number, true);
        }
    }

    private List<int[]> rows;
    private List<Integer> starts;
    private List<Integer> heightOnes;
    private Model.Method host;

    private void makeCode(int m) {
        host = model.methods.get(m);
        if (model.classes.get(host.cls).isInterface || !host.entry && oneOf(9)) {
            return;
        }
        rows = new ArrayList<>();
        starts = new ArrayList<>();
        heightOnes = new ArrayList<>();
        int statements = 1 + random.nextInt(size);
        for (int s = 0; s < statements && rows.size() < 22; s++) {
            starts.add(rows.size());
            statement();
        }
        starts.add(rows.size());
        if (oneOf(5)) {
            row(0, random.nextInt(5));
            heightOnes.add(rows.size());
        } else if (oneOf(3)) {
            expression(2);
        } else {
            row(14, -1);
            heightOnes.add(rows.size());
        }
        row(29, 0);
        typeIn(m);
        addGuards(m);
    }

    private void typeIn(int m) {
        for (int place = 0; place < rows.size() && place < 30; place++) {
            int[] row = rows.get(place);
            int op = row[0];
            int a = row[1];
            if (a == -1 && (op == 14 || op == 15)) {
                a = starts.get(random.nextInt(starts.size()));
                if (oneOf(40)) {
                    a = random.nextInt(rows.size() + 1);
                }
            }
            host.body.rows.add(new Model.Ins(op, a, row[2], place));
            x.code(m, op, a, row[2]);
        }
    }

    private void addGuards(int m) {
        int many = heightOnes.isEmpty() ? 0 : random.nextInt(3);
        for (int g = 0; g < many; g++) {
            int from = random.nextInt(Math.min(30, rows.size()));
            int to = Math.min(30, from + 1 + random.nextInt(oneOf(2) ? Math.max(1, rows.size() - from) : 3));
            int handler = Math.min(30, heightOnes.get(random.nextInt(heightOnes.size())));
            host.body.guards.add(new Model.Guard(from, to, handler));
            x.guard(m, from, to, handler);
        }
    }

    private void row(int op, int a) {
        rows.add(new int[] {op, a, 0});
    }

    private void row(int op, int a, int b) {
        rows.add(new int[] {op, a, b});
    }

    private int variable() {
        int many = (host.isStatic ? 0 : 1) + host.arity + host.locals;
        return many == 0 ? -1 : random.nextInt(many);
    }

    private int anyClass() {
        return random.nextInt(model.classes.size());
    }

    private void statement() {
        switch (random.nextInt(14)) {
            case 0: case 1:
                expression(2);
                row(30, 0);
                break;
            case 2: case 3: case 4:
                expression(3);
                if (variable() >= 0) {
                    row(2, variable());
                } else {
                    row(3, 0);
                }
                break;
            case 5:
                expression(2);
                row(3, 0);
                break;
            case 6: case 7:
                expression(2);
                row(15, -1);
                break;
            case 8:
                row(14, -1);
                heightOnes.add(rows.size());
                row(random.nextInt(3) == 0 ? 3 : 30, 0);
                break;
            case 9: case 10:
                store();
                break;
            case 11:
                row(31, 0);
                break;
            case 12:
                expression(1);
                row(oneOf(3) ? 28 : 30, 0);
                break;
            default:
                expression(1);
                heightOnes.add(rows.size());
                row(oneOf(4) ? 29 : 3, 0);
                break;
        }
    }

    private void store() {
        if (model.fields.isEmpty() || oneOf(8)) {
            object();
            expression(1);
            row(20, anyClass(), random.nextInt(oneOf(9) ? 64 : 4));
            return;
        }
        Model.Field field = model.fields.get(random.nextInt(model.fields.size()));
        boolean asStatic = oneOf(12) != field.isStatic;
        if (!asStatic) {
            objectOf(field.cls);
        }
        expression(1);
        row(asStatic ? 22 : 20, oneOf(7) ? anyClass() : field.cls, field.name);
    }

    private void object() {
        objectOf(anyClass());
    }

    /** An OBJECT of the class or one that IS A such, most times. */
    private void objectOf(int cls) {
        List<Integer> fitting = new ArrayList<>();
        for (int c = 0; c < model.classes.size(); c++) {
            if (model.isA(c, cls) && !model.classes.get(c).isInterface) {
                fitting.add(c);
            }
        }
        int made = fitting.isEmpty() || oneOf(10) ? anyClass() : fitting.get(random.nextInt(fitting.size()));
        switch (random.nextInt(8)) {
            case 0:
                if (variable() >= 0) {
                    row(1, variable());
                } else {
                    row(17, made);
                }
                break;
            case 1:
                row(0, made);
                row(18, 0);
                break;
            case 2:
                row(16, 0);
                break;
            case 3:
                if (!host.isStatic) {
                    row(1, 0);
                } else {
                    row(17, made);
                }
                break;
            default:
                row(17, made);
                break;
        }
    }

    /** Puts one VALUE. */
    private void expression(int deep) {
        if (deep <= 0 || rows.size() > 24) {
            simple();
            return;
        }
        switch (random.nextInt(15)) {
            case 0: case 1: case 2:
                expression(deep - 1);
                expression(deep - 1);
                row(6 + random.nextInt(7), 0);
                break;
            case 3:
                expression(deep - 1);
                row(13, 0);
                break;
            case 4:
                expression(deep - 1);
                row(4, 0);
                row(oneOf(2) ? 6 : 12, 0);
                break;
            case 5:
                expression(deep - 1);
                simple();
                row(5, 0);
                row(7, 0);
                break;
            case 6: case 7: case 8: case 9:
                call(deep);
                break;
            case 10:
                object();
                row(oneOf(2) ? 26 : 27, anyClass());
                break;
            case 11:
                read();
                break;
            case 12:
                expression(deep - 1);
                row(31, 0);
                break;
            case 13:
                object();
                break;
            default:
                simple();
                break;
        }
    }

    private void simple() {
        if (oneOf(2) && variable() >= 0) {
            row(1, variable());
        } else if (oneOf(12)) {
            row(16, 0);
        } else {
            row(0, oneOf(20) ? random.nextInt() : random.nextInt(7) - 2);
        }
    }

    private void read() {
        if (model.fields.isEmpty() || oneOf(8)) {
            row(21, anyClass(), random.nextInt(10));
            return;
        }
        Model.Field field = model.fields.get(random.nextInt(model.fields.size()));
        boolean asStatic = oneOf(12) != field.isStatic;
        if (!asStatic) {
            objectOf(field.cls);
        }
        row(asStatic ? 21 : 19, oneOf(7) ? anyClass() : field.cls, field.name);
    }

    private void call(int deep) {
        Model.Method target = model.methods.get(random.nextInt(model.methods.size()));
        int a = oneOf(10) ? anyClass() : target.cls;
        int b = oneOf(30) ? random.nextInt(64) : target.signature();
        int op = oneOf(15) ? 23 + random.nextInt(3) : target.isStatic ? 25 : 23 + random.nextInt(2);
        if (op != 25) {
            objectOf(a);
        }
        for (int k = 0; k < b % 4; k++) {
            expression(deep - 2);
        }
        row(op, a, b);
    }
}
