import java.util.Random;
import java.util.Set;

/** Random programs: each answer is compared with that of the Model, and what must always be so is looked at. */
final class RandomProgramsTest {
    private static final int[] TOLD = {-1, 0, 1, 7, 3};
    private static int right;
    private static int open;
    private static int wrongRuns;
    private static int fine;
    private static int changedRight;

    public static void main(String[] args) {
        int many = args.length > 0 ? Integer.parseInt(args[0]) : 3000;
        long first = args.length > 1 ? Long.parseLong(args[1]) : 1;
        for (long seed = first; seed < first + many; seed++) {
            one(seed, seed % 3 == 0 ? 7 : seed % 3 == 1 ? 3 : 5);
            if (Check.wrongSoFar() > 20) {
                break;
            }
        }
        System.out.println("right " + right + ", changed and right " + changedRight + ", open " + open + ", wrong " + wrongRuns + ", fine " + fine);
        Check.isTrue("enough right ones", right > many / 4);
        Check.finish("RandomProgramsTest");
    }

    private static void one(long seed, int size) {
        Shrinkforge x = new Shrinkforge();
        Model model = new Model();
        new Maker(seed, x, model, size).make();
        String at = "seed " + seed + ": ";
        compareTyped(at, x, model);
        boolean isRight = model.allRight();
        Check.same(at + "areRight", x.areRight(), isRight);
        if (isRight) {
            right++;
            compareShrunk(at, x, model);
        } else {
            Check.same(at + "shrink", x.shrink(), -9);
        }
        Check.isTrue(at + "isSound", x.isSound());
        x.digest();
        Random random = new Random(seed);
        for (int turn = 1; turn <= 4; turn++) {
            changeSome(random, x, model);
            compareTyped(at + "changed " + turn + ": ", x, model);
            Check.same(at + "areRight", x.areRight(), model.allRight());
            if (model.allRight()) {
                changedRight++;
                compareShrunk(at + "changed " + turn + ": ", x, model);
            }
            Check.isTrue(at + "isSound", x.isSound());
        }
    }

    private static void changeSome(Random random, Shrinkforge x, Model model) {
        for (int m = 0; m < model.methods.size(); m++) {
            Model.Body body = model.methods.get(m).body;
            int many = body.rows.size();
            if (many > 0 && random.nextInt(3) == 0) {
                int place = random.nextInt(many);
                int op = random.nextInt(32);
                int a = random.nextInt(4) == 0 ? random.nextInt(40) - 4 : random.nextInt(many);
                int b = random.nextInt(random.nextInt(3) == 0 ? 64 : 10);
                x.change(m, place, op, a, b);
                body.rows.set(place, new Model.Ins(op, a, b, place));
            }
            if (many > 0 && many < 30 && random.nextInt(9) == 0) {
                int op = random.nextInt(32);
                int a = random.nextInt(many);
                x.code(m, op, a, 1);
                body.rows.add(new Model.Ins(op, a, 1, many));
            }
        }
    }

    private static void compareTyped(String at, Shrinkforge x, Model model) {
        for (int c = 0; c < model.classes.size(); c++) {
            for (int other = 0; other < model.classes.size(); other++) {
                Check.same(at + "isA", x.isA(c, other), model.isA(c, other));
            }
            for (int s = 0; s < 64; s++) {
                Check.same(at + "findMethod", x.findMethod(c, s), model.findMethod(c, s));
            }
            for (int n = 0; n < 10; n++) {
                Check.same(at + "findField", x.findField(c, n), model.findField(c, n));
            }
        }
        for (int m = 0; m < model.methods.size(); m++) {
            Model.Method method = model.methods.get(m);
            boolean isRight = model.right(m);
            Check.same(at + "isRight " + m, x.isRight(m), isRight);
            Set<Integer> live = Model.live(method.body);
            for (int p = 0; p < method.body.rows.size(); p++) {
                Check.same(at + "isLive " + m + " " + p, x.isLive(m, p), live.contains(p));
            }
            if (!isRight) {
                Check.same(at + "folded " + m, x.folded(m), -1);
                continue;
            }
            Model.Body folded = Model.fold(method.body);
            Check.same(at + "folded " + m, x.folded(m), folded.rows.size());
            for (int p = 0; p < folded.rows.size() && p < x.folded(m); p++) {
                Model.Ins i = folded.rows.get(p);
                Check.same(at + "op " + m + " " + p, x.ofFolded(m, p, 0), i.op);
                Check.same(at + "a " + m + " " + p, x.ofFolded(m, p, 1), i.a);
                Check.same(at + "b " + m + " " + p, x.ofFolded(m, p, 2), i.b);
                Check.same(at + "origin " + m + " " + p, x.ofFolded(m, p, 3), i.origin);
            }
        }
    }

    private static void compareShrunk(String at, Shrinkforge x, Model model) {
        Model.Shrunk s = model.shrunk();
        Check.same(at + "shrink", x.shrink(), s.keptMethods.size());
        Check.same(at + "map", x.map(), s.map());
        int[] counts = {s.keptClasses.size(), s.keptMethods.size(), s.keptFields.size(), s.lineCount(),
            s.made.size(), s.familyNames.size()};
        for (int what = 0; what < 6; what++) {
            Check.same(at + "ofShrunk " + what, x.ofShrunk(what), counts[what]);
        }
        for (int n = -1; n < 34; n++) {
            Check.same(at + "isKept 0 " + n, x.isKept(0, n), s.keptClasses.contains(n));
            Check.same(at + "isKept 1 " + n, x.isKept(1, n), s.keptMethods.contains(n));
            Check.same(at + "isKept 2 " + n, x.isKept(2, n), s.keptFields.contains(n));
            Check.same(at + "newName 0 " + n, x.newName(0, n), s.classNames.getOrDefault(n, ""));
            Check.same(at + "newName 2 " + n, x.newName(2, n), s.fieldNames.getOrDefault(n, ""));
            String name = s.keptMethods.contains(n) ? s.familyNames.get(model.methods.get(n).signature()) : "";
            Check.same(at + "newName 1 " + n, x.newName(1, n), name);
            Check.same(at + "lines " + n, x.lines(n), s.keptMethods.contains(n) ? s.codes.get(n).rows.size() : -1);
        }
        for (int m : s.keptMethods) {
            for (int p = 0; p < s.codes.get(m).rows.size(); p++) {
                Check.same(at + "line " + m + " " + p, x.line(m, p), s.line(m, p));
                Check.same(at + "origin " + m + " " + p, x.origin(m, p), s.codes.get(m).rows.get(p).origin);
            }
        }
        for (int c = -1; c < 9; c++) {
            for (int letter = 0; letter < 12; letter++) {
                for (int arity = 0; arity < 4; arity++) {
                    Check.same(at + "called", x.called(c, letter, arity), s.called(c, letter, arity));
                }
            }
        }
        Check.isTrue(at + "again", x.again());
        compareRuns(at, x, model, s);
    }

    private static void compareRuns(String at, Shrinkforge x, Model model, Model.Shrunk s) {
        for (int m = 0; m < model.methods.size(); m++) {
            for (int told : TOLD) {
                if (model.methods.get(m).entry) {
                    Check.isTrue(at + "areAlike " + m + " " + told, x.areAlike(m, told));
                    compareRun(at + "run " + m + " " + told + " ", x, x.run(m, told), model.run(m, told), 0);
                    compareRun(at + "runShrunk " + m + " " + told + " ", x, x.runShrunk(m, told),
                            model.runShrunk(s, m, told), 1);
                }
            }
        }
    }

    private static void compareRun(String at, Shrinkforge x, String answer, Model.Run run, int shrunk) {
        Check.same(at, answer, run.result);
        Check.same(at + "result", x.result(), run.result);
        Check.same(at + "out", x.out(), run.out());
        Check.same(at + "trace", x.trace(), run.trace);
        Check.same(at + "raw", x.raw(), run.raw);
        Check.same(at + "beats", x.ofRun(0), run.beats);
        Check.same(at + "printed", x.ofRun(1), run.printed.size());
        Check.same(at + "most", x.ofRun(2), run.most);
        Check.same(at + "shrunk", x.ofRun(3), shrunk);
        for (int m = 0; m < 24; m++) {
            Check.same(at + "begun " + m, x.begun(m), run.begun[m]);
        }
        char first = answer.charAt(0);
        open += first == '?' ? 1 : 0;
        wrongRuns += first == '!' ? 1 : 0;
        fine += first == '=' ? 1 : 0;
    }
}
