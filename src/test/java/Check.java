import java.util.Objects;

/** Counts what is not as it is due; each test ends with finish(). */
final class Check {
    private static int checks;
    private static int wrong;

    private Check() {
    }

    /** A call that may throw. */
    interface Call {
        Object answer();
    }

    static void same(String what, Object got, Object due) {
        checks++;
        if (!Objects.equals(got, due)) {
            wrong++;
            if (wrong <= 50) {
                System.out.println(what + " answered " + got + ", due is " + due);
            }
        }
    }

    static void isTrue(String what, boolean got) {
        same(what, got, true);
    }

    static void index(String what, Call call) {
        fails(what, call, IndexOutOfBoundsException.class);
    }

    static void argument(String what, Call call) {
        fails(what, call, IllegalArgumentException.class);
    }

    static void state(String what, Call call) {
        fails(what, call, IllegalStateException.class);
    }

    /** Exactly the class is due: the machine's own exceptions are often classes below it. */
    private static void fails(String what, Call call, Class<?> due) {
        Object got;
        try {
            got = call.answer();
        } catch (RuntimeException e) {
            got = e.getClass();
        }
        same(what, got, due);
    }

    /** What each of the document's exceptions is called in refuses(). */
    static final Class<?> INDEX = IndexOutOfBoundsException.class;
    static final Class<?> ARGUMENT = IllegalArgumentException.class;
    static final Class<?> STATE = IllegalStateException.class;

    /** The call throws exactly that, and the checksum of all that can be asked is as before. */
    static void refuses(Shrinkforge x, String what, Class<?> due, Call call) {
        long before = x.digest();
        fails(what, call, due);
        same(what + " changes nothing", x.digest(), before);
    }

    static int wrongSoFar() {
        return wrong;
    }

    static void finish(String name) {
        System.out.println(name + ": " + checks + " checks, " + wrong + " wrong");
        if (wrong > 0) {
            System.exit(1);
        }
    }
}
