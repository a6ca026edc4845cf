import java.lang.reflect.Method;
import java.util.Arrays;
import java.util.Random;

/** Promises 1 to 34: random runs of the class beside the model; every answer is the same. */
public final class ModelTest {
    private static final int RUNS = 4000;
    private static final int STEPS = 120;
    /** A step and the counts at the end take less than 100 calls; behind the 512th nothing is promised. */
    private static final int LAST_STEP = 412;
    private static final String[] STATEMENTS = {"s0=40;", "s1=0;", "s1=3;", "s2=5;", "s3=4;", "s4=2;",
        "k10;", "k23;", "k30;", "k42;", "k59;", "k65;", "h0033;", "h1052;", "o00344;", "o11160;",
        "t069;", "t158;", "t099;", "t111;", "w;", "s0=9;", "k70;", "h0124;", "t200;", "x", "s0=1", "t0;"};

    private static final Check check = new Check();
    private static int calls;

    public static void main(String[] args) throws Exception {
        for (int run = 0; run < RUNS; run++) {
            oneRun(new Random(run), run);
        }
        check.finish("ModelTest");
    }

    private static void oneRun(Random random, int run) throws Exception {
        EightOnIce x = new EightOnIce();
        Model model = new Model();
        Method[] face = FaceTest.publicMethods();
        calls = 0;
        for (int i = 0; i < STEPS && calls < LAST_STEP; i++) {
            int way = random.nextInt(12);
            if (way == 0) {
                tellSome(x, model, random, run);
            } else if (way == 1) {
                rowOfSome(x, model, random, run);
            } else if (way <= 3) {
                both(x, model, "draw", run, random.nextInt(2), 1 + random.nextInt(9), 1 + random.nextInt(9));
            } else {
                Method method = face[random.nextInt(face.length)];
                Object[] numbers = new Object[method.getParameterCount()];
                for (int j = 0; j < numbers.length; j++) {
                    numbers[j] = someNumber(random);
                }
                both(x, model, method.getName(), run, numbers);
            }
        }
        for (int what = -1; what < 26; what++) {
            both(x, model, "count", run, what);
        }
        check.due("no more calls than are promised", Math.max(calls, 512), 512);
    }

    private static int someNumber(Random random) {
        switch (random.nextInt(12)) {
            case 0:
                return random.nextInt(120) - 10;
            case 1:
                return random.nextInt(13) - 1;
            case 2:
                return random.nextInt(50);
            default:
                return random.nextInt(8) == 0 ? random.nextInt() : random.nextInt(6);
        }
    }

    private static void tellSome(EightOnIce x, Model model, Random random, int run) throws Exception {
        int many = random.nextInt(7);
        for (int i = 0; i < many; i++) {
            int good = STATEMENTS.length - (random.nextInt(4) == 0 ? 0 : 7);
            for (char letter : STATEMENTS[random.nextInt(good)].toCharArray()) {
                both(x, model, "feed", run, (int) letter);
            }
        }
        both(x, model, "rink", run);
    }

    /** A ROW that may well fit: MARKS of the TRACES, or RADII of a TRACE or a NEXT. */
    private static void rowOfSome(EightOnIce x, Model model, Random random, int run) throws Exception {
        both(x, model, "clear", run);
        int traces = x.count(0);
        calls += 13;
        if (random.nextBoolean()) {
            int judge = random.nextInt(5);
            for (int trace = 0; trace < traces; trace++) {
                both(x, model, "row", run, x.mark(judge, trace));
            }
            both(x, model, "fits", run);
        } else {
            int foot = random.nextInt(2);
            int push = 1 + random.nextInt(9);
            int lean = 1 + random.nextInt(9);
            for (int hour = 0; hour < 12; hour++) {
                both(x, model, "row", run, Math.min(99, x.next(foot, push, lean, hour)));
            }
            for (int kind = -1; kind < 7; kind++) {
                both(x, model, "whose", run, foot, kind);
            }
            both(x, model, "judge", run, random.nextInt(6));
        }
    }

    private static void both(EightOnIce x, Model model, String name, int run, Object... numbers)
            throws Exception {
        calls++;
        Class<?>[] types = new Class<?>[numbers.length];
        Arrays.fill(types, int.class);
        Number got = (Number) EightOnIce.class.getDeclaredMethod(name, types).invoke(x, numbers);
        Number want = (Number) Model.class.getDeclaredMethod(name, types).invoke(model, numbers);
        check.due("run " + run + ": " + name + Arrays.toString(numbers), got.longValue(), want.longValue());
    }
}
