import java.lang.reflect.InvocationTargetException;
import java.lang.reflect.Method;
import java.lang.reflect.Modifier;
import java.util.HashMap;
import java.util.List;
import java.util.Map;
import java.util.Random;
import java.util.TreeMap;

/** The same random calls, right and wrong ones, of a Shrinkforge and of a Twin: each answer is the same. */
final class RandomSequencesTest {
    private static final int MOST_CALLS = 512;
    private static final int[] ODD = {-1, 99, 31, 32, 33, 64, Integer.MAX_VALUE, Integer.MIN_VALUE, 30, 63};
    private static final int[] TOLD = {-1, 0, 1, 7, 2, 3, 5, -7, Integer.MAX_VALUE, Integer.MIN_VALUE};
    private static final String[] TYPING = {"cls", "implement", "named", "field", "method", "code", "change", "cut",
        "guard", "entry"};
    private static final String[] OFTEN = {"run", "runShrunk", "areAlike", "shrink", "digest", "areRight"};
    private static final Map<String, Method> MINE = methodsOf(Shrinkforge.class);
    private static final Map<String, Method> TWINS = methodsOf(Twin.class);
    private static final List<String> NAMES = List.copyOf(new TreeMap<>(MINE).keySet());

    private final Random random;
    private final Shrinkforge x = new Shrinkforge();
    private final Twin twin = new Twin();
    private final int seed;
    private int calls;
    private static int shrunk;
    private static int runs;
    private static int thrown;

    private RandomSequencesTest(int seed) {
        this.seed = seed;
        random = new Random(seed);
    }

    public static void main(String[] args) {
        int many = args.length > 0 ? Integer.parseInt(args[0]) : 600;
        int first = args.length > 1 ? Integer.parseInt(args[1]) : 1;
        Check.same("the Twin has the same face", TWINS.keySet(), MINE.keySet());
        for (int seed = first; seed < first + many && Check.wrongSoFar() < 20; seed++) {
            RandomSequencesTest one = new RandomSequencesTest(seed);
            one.make();
            shrunk += one.x.house(6);
            runs += one.x.house(5);
        }
        System.out.println("shrunk " + shrunk + ", runs " + runs + ", thrown " + thrown);
        Check.isTrue("it was shrunk and run often", shrunk > many && runs > 2 * many);
        Check.finish("RandomSequencesTest");
    }

    private static Map<String, Method> methodsOf(Class<?> type) {
        Map<String, Method> methods = new HashMap<>();
        for (Method method : type.getDeclaredMethods()) {
            if (Modifier.isPublic(method.getModifiers())) {
                method.setAccessible(true);
                methods.put(method.getName(), method);
            }
        }
        return methods;
    }

    private void make() {
        start();
        both("shrink");
        both("digest");
        while (calls < MOST_CALLS - 1 && Check.wrongSoFar() < 20) {
            int kind = random.nextInt(40);
            if (kind == 0 && random.nextInt(4) == 0) {
                both("wipe");
                start();
            } else if (kind < 6) {
                callOf(TYPING[random.nextInt(TYPING.length)]);
            } else if (kind < 20) {
                callOf(OFTEN[random.nextInt(OFTEN.length)]);
            } else {
                String name = NAMES.get(random.nextInt(NAMES.size()));
                callOf(name.equals("wipe") ? "knock" : name);
            }
        }
        both("digest");
    }

    /** A SAMPLE, or a program from a Maker that is typed again, row by row, into both. */
    private void start() {
        if (random.nextInt(3) == 0) {
            both("sample", random.nextInt(4));
            return;
        }
        Model made = new Model();
        new Maker(random.nextLong(), new Shrinkforge(), made, 3).make();
        for (Model.Cls cls : made.classes) {
            both("cls", cls.above, cls.isInterface);
        }
        for (int cls = 0; cls < made.classes.size(); cls++) {
            both("named", cls, made.classes.get(cls).named);
            for (int other : made.classes.get(cls).own) {
                both("implement", cls, other);
            }
        }
        for (Model.Field field : made.fields) {
            both("field", field.cls, field.name, field.isStatic);
        }
        for (int m = 0; m < made.methods.size(); m++) {
            typeMethod(m, made.methods.get(m));
        }
    }

    private void typeMethod(int m, Model.Method method) {
        both("method", method.cls, method.name, method.arity, method.isStatic, method.locals);
        for (Model.Ins row : method.body.rows) {
            both("code", m, row.op, row.a, row.b);
        }
        for (Model.Guard guard : method.body.guards) {
            both("guard", m, guard.from, guard.to, guard.handler);
        }
        if (method.entry) {
            both("entry", m, true);
        }
    }

    private int number(int below) {
        return random.nextInt(12) == 0 ? ODD[random.nextInt(ODD.length)] : random.nextInt(Math.max(below, 1));
    }

    private int classNumber() {
        return number(twin.house(0));
    }

    private int methodNumber() {
        return number(twin.house(2));
    }

    private int place(int method) {
        boolean isThere = method >= 0 && method < twin.house(2);
        return number(isThere ? twin.ofMethod(method, 5) : 3);
    }

    /** An ENTRY, most times. */
    private int entryNumber() {
        int method = methodNumber();
        for (int turn = 0; turn < 20; turn++) {
            if (method >= 0 && method < twin.house(2) && twin.ofMethod(method, 7) == 1 || random.nextInt(30) == 0) {
                break;
            }
            method = methodNumber();
        }
        return method;
    }

    private void callOf(String name) {
        int method = methodNumber();
        switch (name) {
            case "cls": both(name, random.nextBoolean() ? -1 : classNumber(), random.nextInt(3) == 0); break;
            case "implement": case "isA": both(name, classNumber(), classNumber()); break;
            case "named": both(name, classNumber(), random.nextBoolean()); break;
            case "field": both(name, classNumber(), number(10), random.nextBoolean()); break;
            case "method":
                both(name, classNumber(), number(16), number(4), random.nextBoolean(), number(5));
                break;
            case "code": both(name, method, number(32), number(8), number(8)); break;
            case "change": change(method); break;
            case "cut": both(name, method, number(2)); break;
            case "guard": both(name, method, place(method), place(method), place(method)); break;
            case "entry": both(name, method, random.nextInt(3) > 0); break;
            case "ofClass": both(name, classNumber(), number(6)); break;
            case "ofField": both(name, number(twin.house(1)), number(3)); break;
            case "ofMethod": both(name, method, number(8)); break;
            case "instruction": both(name, method, place(method), number(3)); break;
            case "findMethod": both(name, classNumber(), number(random.nextBoolean() ? 12 : 64)); break;
            case "findField": both(name, classNumber(), number(10)); break;
            case "isRight": case "folded": case "lines": case "begun": both(name, method); break;
            case "isLive": case "line": case "origin": both(name, method, place(method)); break;
            case "ofFolded": both(name, method, place(method), number(4)); break;
            case "isKept": case "newName": both(name, number(3), method); break;
            case "called": both(name, classNumber(), number(4), number(4)); break;
            case "run": case "runShrunk": case "areAlike":
                both(name, entryNumber(), TOLD[random.nextInt(TOLD.length)]);
                break;
            case "sample": both(name, random.nextInt(4) == 0 ? number(4) : 9); break;
            case "ofShrunk": both(name, number(6)); break;
            case "ofRun": both(name, number(4)); break;
            case "house": both(name, number(8)); break;
            default: both(name); break;
        }
    }

    /** Another PUSH for a PUSH most times, so that what was RIGHT often stays so. */
    private void change(int method) {
        for (int turn = 0; turn < 20; turn++) {
            int place = place(method);
            boolean isThere = method >= 0 && method < twin.house(2) && place >= 0 && place < twin.ofMethod(method, 5);
            if (isThere && twin.instruction(method, place, 0) == Ops.PUSH) {
                both("change", method, place, Ops.PUSH, random.nextInt(5) - 2, random.nextInt(64));
                return;
            }
        }
        both("change", method, place(method), number(32), number(8), number(8));
    }

    private void both(String name, Object... told) {
        if (calls >= MOST_CALLS) {
            return;
        }
        calls++;
        String what = "seed " + seed + " call " + calls + ": " + name + List.of(told);
        Object due = answerOf(TWINS.get(name), twin, told);
        Check.same(what, answerOf(MINE.get(name), x, told), due);
        thrown += due instanceof Class ? 1 : 0;
    }

    /** What the call answers, or the class of what it throws. */
    private static Object answerOf(Method method, Object object, Object[] told) {
        try {
            return method.invoke(object, told);
        } catch (InvocationTargetException e) {
            return e.getCause().getClass();
        } catch (IllegalAccessException e) {
            throw new IllegalStateException(e);
        }
    }
}
