import java.util.Arrays;
import java.util.Random;

/** All promises: runs of 512 calls, the same ones each time, held against the plain model. */
public final class RandomRunsTest {

    private static final int RUNS = 60;
    private static final int CALLS = 512;
    private static final int CALLS_BEYOND = 300;
    private static final int[] FAR = {-1, Integer.MIN_VALUE, Integer.MAX_VALUE, 1000001, -1000001, 256, 40, 17, 6};

    private final Random random;
    private final WordsBeside real = new WordsBeside();
    private final Model model = new Model();
    private final int seed;
    private int wrong = 0;
    /** What later calls answer is free, but they must not throw either. */
    private boolean looked = true;

    private RandomRunsTest(int seed) {
        this.seed = seed;
        this.random = new Random(seed);
    }

    public static void main(String[] args) {
        for (int seed = 1; seed <= RUNS; seed++) {
            new RandomRunsTest(seed).go();
        }
        Script.end();
    }

    private void go() {
        // A run with few functions has claims, states and steps that meet more often.
        int functions = 1 + random.nextInt(6);
        int changing = 2 + random.nextInt(10);
        for (int call = 0; call < CALLS + CALLS_BEYOND && wrong < 3; call++) {
            looked = call < CALLS;
            int f = anything(6 - functions, 6);
            if (random.nextInt(20) < changing) {
                changeSomething(f);
            } else {
                askSomething(f);
            }
        }
    }

    private void changeSomething(int f) {
        switch (random.nextInt(14)) {
            case 0: both("clear", f); break;
            case 1:
            case 2:
            case 3: both("step", f, aStep(f)); break;
            case 4:
            case 5: both("change", f, anything(0, 4), aStep(f)); break;
            case 6: both("keep"); break;
            case 7:
            case 8:
            case 9: newClaim(f); break;
            case 10:
            case 11:
            case 12: both("mended", aClaim()); break;
            default: both("mark", random.nextInt(4) == 0 ? aClaim() : -1); break;
        }
    }

    private void askSomething(int f) {
        switch (random.nextInt(9)) {
            case 0: both("run", f, anything(0, 16), anything(0, 16)); break;
            case 1: both("was", anything(0, 8), f, anything(0, 16), anything(0, 16)); break;
            case 2:
            case 3: both("told", aClaim(), anything(0, 8)); break;
            case 4: both("denied", aClaim()); break;
            case 5: both("mend", aClaim(), anything(0, 2)); break;
            case 6: both("listed", anything(0, 12)); break;
            case 7: both("missing", f); break;
            default: both("count", anything(0, 26)); break;
        }
    }

    private void newClaim(int f) {
        int kind = anything(0, 8);
        int p = switch (kind) {
            case 0 -> anything(-30, 10);
            case 3 -> anything(1, 12);
            case 5 -> anything(0, 256);
            case 6 -> anything(0, 17);
            default -> anything(0, 6);
        };
        both("claim", f, kind, p, anything(kind == 0 ? 0 : -5, 60));
    }

    private int aClaim() {
        return anything(0, Math.max(1, model.count(0)));
    }

    private int aStep(int f) {
        int op = anything(0, 11);
        if (op == 9) {
            return 9000 + random.nextInt(Math.max(1, Math.min(f, 6)) + (random.nextInt(9) == 0 ? 3 : 0));
        }
        if (op < 0 || op > 10) {
            return op;
        }
        if (op == 8 && random.nextInt(3) > 0) {
            return 2501;
        }
        if (random.nextInt(6) == 0) {
            return op * 1000 + random.nextInt(1000);
        }
        return op == 10 ? 10000 + random.nextInt(20) : op * 1000 + 490 + random.nextInt(20);
    }

    /** Mostly from .. to - 1, at times something far off. */
    private int anything(int from, int to) {
        if (random.nextInt(60) == 0) {
            return random.nextBoolean() ? to : FAR[random.nextInt(FAR.length)];
        }
        return from + random.nextInt(to - from);
    }

    private void both(String name, int... arguments) {
        int got = Script.call(real, name, arguments);
        int want = looked ? Script.call(model, name, arguments) : got;
        if (got != want) {
            wrong++;
        }
        Script.due("seed " + seed + ": " + name + Arrays.toString(arguments), got, want);
    }
}
