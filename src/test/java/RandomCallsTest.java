import java.util.Random;

/** Random calls with right and wrong inputs: only the document's exceptions come, and they change nothing. */
final class RandomCallsTest {
    private static final int[] ODD = {-1, 99, 31, 32, 33, 64, Integer.MAX_VALUE, Integer.MIN_VALUE, 30, 63};
    private static int thrown;
    private static int answered;
    private static int shrunk;

    public static void main(String[] args) {
        int many = args.length > 0 ? Integer.parseInt(args[0]) : 400;
        for (int seed = 0; seed < many && Check.wrongSoFar() < 20; seed++) {
            calls(seed);
        }
        System.out.println("thrown " + thrown + ", answered " + answered + ", shrunk " + shrunk);
        Check.finish("RandomCallsTest");
    }

    private static void calls(int seed) {
        Random random = new Random(seed);
        Shrinkforge x = new Shrinkforge();
        if (seed % 4 == 1) {
            new Maker(seed, x, new Model(), 5).make();
        }
        for (int turn = 0; turn < 512; turn++) {
            long before = x.digest();
            int call = random.nextInt(44);
            String what = "seed " + seed + " turn " + turn + " call " + call;
            try {
                one(random, x, call);
                answered++;
                if (call >= 12 && call < 25 || call > 25 && call < 35 || call == 37 || call > 37 && call < 43) {
                    Check.same(what + " asks only", x.digest(), before);
                }
            } catch (RuntimeException e) {
                thrown++;
                Class<?> type = e.getClass();
                Check.isTrue(what + " throws " + e, type == IndexOutOfBoundsException.class
                        || type == IllegalArgumentException.class || type == IllegalStateException.class);
                Check.same(what + " changed nothing", x.digest(), before);
            }
        }
        shrunk += x.house(4);
    }

    private static int number(Random random, int below) {
        return random.nextInt(9) == 0 ? ODD[random.nextInt(ODD.length)] : random.nextInt(below);
    }

    private static void one(Random random, Shrinkforge x, int call) {
        int m = number(random, Math.max(1, x.house(2)));
        int c = number(random, Math.max(1, x.house(0)));
        int place = number(random, 6);
        boolean is = random.nextBoolean();
        switch (call) {
            case 0: x.cls(random.nextInt(2) == 0 ? -1 : c, random.nextInt(3) == 0); break;
            case 1: x.implement(c, number(random, 8)); break;
            case 2: x.named(c, is); break;
            case 3: x.field(c, number(random, 11), is); break;
            case 4: x.method(c, number(random, 5), number(random, 4), is, number(random, 5)); break;
            case 5: x.code(m, number(random, 33), number(random, 9), number(random, 16)); break;
            case 6: x.change(m, place, number(random, 32), number(random, 9), number(random, 16)); break;
            case 7: x.cut(m, number(random, 3)); break;
            case 8: x.guard(m, number(random, 3), number(random, 8), number(random, 8)); break;
            case 9: x.entry(m, is); break;
            case 10: if (random.nextInt(3) == 0) { x.sample(number(random, 5)); } break;
            case 11: if (random.nextInt(8) == 0) { x.wipe(); } break;
            default: asks(random, x, call, m, c, place); break;
        }
    }

    private static void asks(Random random, Shrinkforge x, int call, int m, int c, int place) {
        int what = number(random, 8);
        switch (call) {
            case 12: x.ofClass(c, what); break;
            case 13: x.ofField(number(random, 16), what); break;
            case 14: x.ofMethod(m, what); break;
            case 15: x.instruction(m, place, number(random, 4)); break;
            case 16: x.isA(c, number(random, 8)); break;
            case 17: x.findMethod(c, number(random, 64)); break;
            case 18: x.findField(c, number(random, 10)); break;
            case 19: x.isRight(m); break;
            case 20: x.areRight(); break;
            case 21: x.isLive(m, place); break;
            case 22: x.folded(m); break;
            case 23: x.ofFolded(m, place, number(random, 5)); break;
            case 24: x.house(what); break;
            case 25: x.shrink(); break;
            case 26: x.again(); break;
            case 27: x.isKept(number(random, 3), m); break;
            case 28: x.newName(number(random, 3), m); break;
            case 29: x.lines(m); break;
            case 30: x.line(m, place); break;
            case 31: x.origin(m, place); break;
            case 32: x.map(); break;
            case 33: x.called(c, number(random, 26), number(random, 4)); break;
            case 34: x.ofShrunk(what); break;
            case 35: x.run(m, number(random, 8)); break;
            case 36: x.runShrunk(m, number(random, 8)); break;
            case 37: x.areAlike(m, number(random, 8)); break;
            case 38: x.out(); x.trace(); x.raw(); x.result(); break;
            case 39: x.ofRun(number(random, 5)); break;
            case 40: x.begun(m); break;
            case 41: x.isSound(); break;
            case 42: x.digest(); break;
            default: x.knock(); break;
        }
    }
}
