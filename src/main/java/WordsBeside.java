/**
 * A keeper of claims that stand beside small functions. Each claim is held against the code by all
 * 256 runs of its function; see the project's document for the words in capitals.
 */
public final class WordsBeside {

    /** There is none. */
    public static final int NONE = -1;

    /** Stands for what a REFUSED run gives, and for every number that there isn't. */
    private static final int NO_NUMBER = -2147483648;

    private static final int FUNCTIONS = 6;
    private static final int MOST_STEPS = 12;
    private static final int SIDE = 16;
    private static final int RUNS = SIDE * SIDE;
    private static final int LIMIT = 1000000;
    private static final int MOST_STATES = 30;
    private static final int MOST_CLAIMS = 40;
    private static final int MOST_DIVISOR = 1000;

    private static final int HELD = 0;
    private static final int BROKEN = 1;
    private static final int STALE = 2;

    private static final int BETWEEN = 0;
    private static final int NEVER_REFUSED = 1;
    private static final int RISING = 2;
    private static final int MULTIPLE = 3;
    private static final int LIKE_BOTH_WAYS = 4;
    private static final int EXAMPLE = 5;
    private static final int REFUSES_FROM = 6;
    private static final int AS_FUNCTION = 7;

    private static final int KINDS_OF_REFUSAL = 1 << NEVER_REFUSED | 1 << REFUSES_FROM;
    private static final int KINDS_OF_BOUNDS = 1 << BETWEEN;
    private static final int ALL_KINDS = (1 << AS_FUNCTION + 1) - 1;

    private final Code code;
    private final World now;
    /** The FUNCTIONS below this number have their present runs in now; a change puts it down. */
    private int settled;

    private final World[] states;
    private int kept;

    private final Claim[] claims;
    private int came;
    /** The list's row, made once and filled again by each call that needs the list. */
    private final int[] listedHarms;

    public WordsBeside() {
        code = new Code();
        now = new World();
        settled = FUNCTIONS;
        states = new World[MOST_STATES + 1];
        states[0] = new World();
        kept = 0;
        claims = new Claim[MOST_CLAIMS];
        came = 0;
        listedHarms = new int[MOST_CLAIMS];
    }

    public boolean clear(int function) {
        if (!isFunction(function)) {
            return false;
        }
        code.empty(function);
        unsettle(function);
        return true;
    }

    public int step(int function, int step) {
        if (!isFunction(function)) {
            return NONE;
        }
        int place = code.length(function);
        if (place >= MOST_STEPS || !code.canStand(function, place, step)) {
            return NONE;
        }
        code.append(function, step);
        unsettle(function);
        return place + 1;
    }

    public boolean change(int function, int k, int step) {
        if (!isFunction(function) || k < 0 || k >= code.length(function)) {
            return false;
        }
        if (!code.canStand(function, k, step)) {
            return false;
        }
        code.put(function, k, step);
        unsettle(function);
        return true;
    }

    public int run(int function, int x, int y) {
        return present().given(function, runNumber(x, y));
    }

    public int keep() {
        if (kept >= MOST_STATES) {
            return NONE;
        }
        World state = present().copy();
        kept++;
        states[kept] = state;
        for (int i = 0; i < came; i++) {
            Claim each = claims[i];
            if (each != null && each.isHeldIn(state)) {
                each.lastHeld = kept;
            }
        }
        return kept;
    }

    public int was(int state, int function, int x, int y) {
        World world = keptState(state);
        return world == null ? NO_NUMBER : world.given(function, runNumber(x, y));
    }

    public int claim(int function, int kind, int p, int q) {
        if (came >= MOST_CLAIMS || !isFunction(function) || !canBeClaimed(kind, p, q)) {
            return NONE;
        }
        Claim coming = new Claim(function, kind, p, q, kept);
        coming.lastHeld = lastKeptHolding(coming);
        claims[came] = coming;
        came++;
        return came - 1;
    }

    public int told(int claim, int what) {
        Claim asked = claimAt(claim);
        if (asked == null) {
            return NO_NUMBER;
        }
        switch (what) {
            case 0:
                return standing(asked, present());
            case 1:
                return asked.function;
            case 2:
                return asked.kind;
            case 3:
                return asked.p;
            case 4:
                return asked.q;
            case 5:
                return asked.harmIn(present());
            case 6:
                return standing(asked, present()) == STALE ? asked.lastHeld + 1 : NONE;
            case 7:
                return asked.marked ? 1 : 0;
            default:
                return NO_NUMBER;
        }
    }

    public int denied(int claim) {
        Claim asked = claimAt(claim);
        return asked == null ? NONE : asked.firstDenialIn(present());
    }

    public int mend(int claim, int what) {
        Claim asked = claimAt(claim);
        if (asked == null || asked.isHeldIn(present())) {
            return NO_NUMBER;
        }
        switch (what) {
            case 0:
                return firstMend(asked);
            case 1:
                return secondMend(asked);
            default:
                return NO_NUMBER;
        }
    }

    public boolean mended(int claim) {
        Claim asked = claimAt(claim);
        if (asked == null || asked.isHeldIn(present())) {
            return false;
        }
        int first = firstMend(asked);
        if (first == NO_NUMBER) {
            return false;
        }
        if (asked.kind == EXAMPLE) {
            asked.q = first;
        } else {
            asked.p = first;
        }
        if (asked.kind == BETWEEN) {
            asked.q = secondMend(asked);
        }
        asked.lastHeld = lastKeptHolding(asked);
        return true;
    }

    public boolean mark(int claim) {
        Claim asked = claimAt(claim);
        if (asked == null || asked.marked) {
            return false;
        }
        asked.marked = true;
        return true;
    }

    public int listed(int i) {
        if (i < 0 || i >= came) {
            return NONE;
        }
        fillListedHarms();
        for (int c = 0; c < came; c++) {
            if (listedHarms[c] > 0 && listedAheadOf(c) == i) {
                return c;
            }
        }
        return NONE;
    }

    public int missing(int function) {
        if (!isFunction(function)) {
            return NONE;
        }
        World world = present();
        int bits = 0;
        if (world.refusals(function) > 0 && !hasClaim(function, KINDS_OF_REFUSAL)) {
            bits |= 1;
        }
        // NO_NUMBER, if all runs are REFUSED, is below 0 too, but nothing is given then.
        int least = world.least(function);
        if (least != NO_NUMBER && least < 0 && !hasClaim(function, KINDS_OF_BOUNDS)) {
            bits |= 2;
        }
        if (code.length(function) > 0 && !hasClaim(function, ALL_KINDS)) {
            bits |= 4;
        }
        return bits;
    }

    public int count(int what) {
        if (what >= 10 && isFunction(what - 10)) {
            return code.length(what - 10);
        }
        if (what >= 20 && isFunction(what - 20)) {
            return present().refusals(what - 20);
        }
        switch (what) {
            case 0:
                return came;
            case 1:
                return kept;
            case 2:
                return howManyStand(HELD);
            case 3:
                return howManyStand(BROKEN);
            case 4:
                return howManyStand(STALE);
            case 5:
                return howManyMarked();
            default:
                return NONE;
        }
    }

    private static boolean isFunction(int function) {
        return function >= 0 && function < FUNCTIONS;
    }

    private static boolean isRun(int run) {
        return run >= 0 && run < RUNS;
    }

    private static boolean isWithinLimit(int number) {
        return number >= -LIMIT && number <= LIMIT;
    }

    /** The number of a RUN, by x, of one x by y; NONE if there is no such RUN. */
    private static int runNumber(int x, int y) {
        if (x < 0 || x >= SIDE || y < 0 || y >= SIDE) {
            return NONE;
        }
        return x * SIDE + y;
    }

    private static boolean canBeClaimed(int kind, int p, int q) {
        switch (kind) {
            case BETWEEN:
                return isWithinLimit(p) && isWithinLimit(q) && p <= q;
            case NEVER_REFUSED:
            case RISING:
            case LIKE_BOTH_WAYS:
                return true;
            case MULTIPLE:
                return p >= 1 && p <= MOST_DIVISOR;
            case EXAMPLE:
                return isRun(p) && isWithinLimit(q);
            case REFUSES_FROM:
                return p >= 0 && p <= SIDE;
            case AS_FUNCTION:
                return isFunction(p);
            default:
                return false;
        }
    }

    /** A FUNCTION goes by those below it alone, so those below a changed one stay as they are. */
    private void unsettle(int function) {
        settled = Math.min(settled, function);
    }

    private World present() {
        for (int function = settled; function < FUNCTIONS; function++) {
            code.runAll(function, now);
        }
        settled = FUNCTIONS;
        return now;
    }

    private World keptState(int state) {
        return state >= 0 && state <= kept && state < states.length ? states[state] : null;
    }

    private Claim claimAt(int claim) {
        return claim >= 0 && claim < came && claim < claims.length ? claims[claim] : null;
    }

    private static int standing(Claim asked, World world) {
        if (asked.isHeldIn(world)) {
            return HELD;
        }
        return asked.lastHeld == NONE ? BROKEN : STALE;
    }

    /** The last state, from that on at which the claim came, in which it is held as it reads now. */
    private int lastKeptHolding(Claim asked) {
        for (int state = kept; state >= asked.born; state--) {
            World world = keptState(state);
            if (world != null && asked.isHeldIn(world)) {
                return state;
            }
        }
        return NONE;
    }

    private int firstMend(Claim asked) {
        switch (asked.kind) {
            case BETWEEN:
                return present().least(asked.function);
            case MULTIPLE:
                return present().greatestDivisor(asked.function);
            case EXAMPLE:
                return present().given(asked.function, asked.p);
            case REFUSES_FROM:
                return present().refusesFrom(asked.function);
            default:
                return NO_NUMBER;
        }
    }

    private int secondMend(Claim asked) {
        return asked.kind == BETWEEN ? present().most(asked.function) : NO_NUMBER;
    }

    /** A claim that isn't in the list gets 0 here: one that isn't held has a harm of 1 at least. */
    private void fillListedHarms() {
        World world = present();
        for (int c = 0; c < claims.length; c++) {
            Claim each = claimAt(c);
            listedHarms[c] = each == null || each.marked ? 0 : each.harmIn(world);
        }
    }

    private int listedAheadOf(int claim) {
        int own = listedHarms[claim];
        int ahead = 0;
        for (int c = 0; c < came; c++) {
            if (listedHarms[c] > own || (listedHarms[c] == own && c < claim)) {
                ahead++;
            }
        }
        return ahead;
    }

    /** Whether there is a claim of the FUNCTION whose KIND is among the bits of kinds. */
    private boolean hasClaim(int function, int kinds) {
        for (int c = 0; c < came; c++) {
            Claim each = claims[c];
            if (each != null && each.function == function && (kinds >> each.kind & 1) == 1) {
                return true;
            }
        }
        return false;
    }

    private int howManyStand(int wanted) {
        World world = present();
        int many = 0;
        for (int c = 0; c < came; c++) {
            Claim each = claims[c];
            if (each != null && standing(each, world) == wanted) {
                many++;
            }
        }
        return many;
    }

    private int howManyMarked() {
        int many = 0;
        for (int c = 0; c < came; c++) {
            Claim each = claims[c];
            if (each != null && each.marked) {
                many++;
            }
        }
        return many;
    }

    /** The steps of all FUNCTIONS as they are now, and how a run goes by them. */
    private static final class Code {

        private static final int UNIT = 1000;
        private static final int MIDDLE = 500;
        private static final int MOST_INNER = 2;

        private static final int SET = 0;
        private static final int MORE = 1;
        private static final int MORE_BY_X = 2;
        private static final int MORE_BY_Y = 3;
        private static final int TIMES = 4;
        private static final int AT_MOST = 5;
        private static final int AT_LEAST = 6;
        private static final int LEAVE_OUT_BELOW = 7;
        private static final int REFUSE = 8;
        private static final int INNER = 9;
        private static final int REST = 10;

        private final int[] steps;
        private final int[] lengths;

        Code() {
            steps = new int[FUNCTIONS * MOST_STEPS];
            lengths = new int[FUNCTIONS];
        }

        int length(int function) {
            return isFunction(function) ? lengths[function] : 0;
        }

        void empty(int function) {
            if (isFunction(function)) {
                lengths[function] = 0;
            }
        }

        void append(int function, int step) {
            if (isFunction(function) && lengths[function] < MOST_STEPS) {
                lengths[function]++;
                put(function, lengths[function] - 1, step);
            }
        }

        void put(int function, int k, int step) {
            if (isFunction(function) && k >= 0 && k < MOST_STEPS) {
                steps[function * MOST_STEPS + k] = step;
            }
        }

        private int at(int function, int k) {
            if (!isFunction(function) || k < 0 || k >= MOST_STEPS) {
                return NONE;
            }
            return steps[function * MOST_STEPS + k];
        }

        /** Whether a step may be at place k, where the one that is there now would be gone. */
        boolean canStand(int function, int k, int step) {
            if (step < 0) {
                return false;
            }
            int op = step / UNIT;
            int a = step % UNIT;
            if (op == INNER) {
                return a < function && innerStepsBut(function, k) < MOST_INNER;
            }
            if (op == REST) {
                return a >= 1;
            }
            return op < INNER;
        }

        private int innerStepsBut(int function, int place) {
            int many = 0;
            for (int k = 0; k < length(function); k++) {
                if (k != place && at(function, k) / UNIT == INNER) {
                    many++;
                }
            }
            return many;
        }

        /** The FUNCTIONS below this one must have their runs in the world already. */
        void runAll(int function, World world) {
            for (int run = 0; run < RUNS; run++) {
                world.put(function, run, goThrough(function, run, world));
            }
        }

        private int goThrough(int function, int run, World world) {
            int register = 0;
            boolean leftOut = false;
            int length = length(function);
            for (int k = 0; k < length; k++) {
                int step = at(function, k);
                if (leftOut) {
                    leftOut = false;
                } else if (step / UNIT == LEAVE_OUT_BELOW) {
                    leftOut = register < step % UNIT - MIDDLE;
                } else {
                    register = after(step, register, run, world);
                    if (!isWithinLimit(register)) {
                        return NO_NUMBER;
                    }
                }
            }
            return register;
        }

        /** What the register would be; a number beyond the limit, such as NO_NUMBER, if REFUSED. */
        private static int after(int step, int register, int run, World world) {
            int a = step % UNIT;
            int b = a - MIDDLE;
            switch (step / UNIT) {
                case SET:
                    return b;
                case MORE:
                    return register + b;
                case MORE_BY_X:
                    return register + b * (run / SIDE);
                case MORE_BY_Y:
                    return register + b * (run % SIDE);
                case TIMES:
                    return register * b;
                case AT_MOST:
                    return Math.min(register, b);
                case AT_LEAST:
                    return Math.max(register, b);
                case REFUSE:
                    return NO_NUMBER;
                case INNER:
                    return world.given(a, run);
                case REST:
                    return a > 0 ? Math.floorMod(register, a) : NO_NUMBER;
                default:
                    return NO_NUMBER;
            }
        }
    }

    /** What all runs of all FUNCTIONS give in one state. */
    private static final class World {

        /** Euclid's rounds for numbers up to the limit are some thirty. */
        private static final int MOST_ROUNDS = 64;

        private final int[] gives;

        World() {
            gives = new int[FUNCTIONS * RUNS];
        }

        World copy() {
            World other = new World();
            System.arraycopy(gives, 0, other.gives, 0, gives.length);
            return other;
        }

        void put(int function, int run, int number) {
            if (isFunction(function) && isRun(run)) {
                gives[function * RUNS + run] = number;
            }
        }

        /** NO_NUMBER if the run is REFUSED, or if there is none such. */
        int given(int function, int run) {
            if (function < 0 || function >= FUNCTIONS || run < 0 || run >= RUNS) {
                return NO_NUMBER;
            }
            return gives[function * RUNS + run];
        }

        int refusals(int function) {
            int many = 0;
            for (int run = 0; run < RUNS; run++) {
                if (given(function, run) == NO_NUMBER) {
                    many++;
                }
            }
            return many;
        }

        int least(int function) {
            int least = NO_NUMBER;
            for (int run = 0; run < RUNS; run++) {
                int given = given(function, run);
                if (given != NO_NUMBER && (least == NO_NUMBER || given < least)) {
                    least = given;
                }
            }
            return least;
        }

        /** NO_NUMBER is below all that a run gives, so REFUSED runs need no look of their own. */
        int most(int function) {
            int most = NO_NUMBER;
            for (int run = 0; run < RUNS; run++) {
                most = Math.max(most, given(function, run));
            }
            return most;
        }

        /** The greatest p by which a claim MULTIPLE is held. */
        int greatestDivisor(int function) {
            int common = 0;
            for (int run = 0; run < RUNS; run++) {
                int given = given(function, run);
                if (given != NO_NUMBER) {
                    common = commonDivisor(Math.abs(given), common);
                }
            }
            for (int p = MOST_DIVISOR; p > 1; p--) {
                if (common % p == 0) {
                    return p;
                }
            }
            return 1;
        }

        private static int commonDivisor(int one, int other) {
            int great = one;
            int small = other;
            for (int round = 0; round < MOST_ROUNDS && small != 0; round++) {
                int rest = great % small;
                great = small;
                small = rest;
            }
            return great;
        }

        /** The p by which a claim REFUSES is held; NO_NUMBER if there is none. */
        int refusesFrom(int function) {
            int p = firstRefusal(function) / SIDE;
            // No run with x below p is REFUSED: all others are, if there are as many REFUSED ones.
            return refusals(function) == RUNS - p * SIDE ? p : NO_NUMBER;
        }

        private int firstRefusal(int function) {
            for (int run = 0; run < RUNS; run++) {
                if (given(function, run) == NO_NUMBER) {
                    return run;
                }
            }
            return RUNS;
        }
    }

    private static final class Claim {

        final int function;
        final int kind;
        int p;
        int q;
        /** The state that was KEPT last ahead of its coming. */
        final int born;
        /** The last KEPT state, from born on, in which it is held; NONE if there is none. */
        int lastHeld;
        boolean marked;

        Claim(int function, int kind, int p, int q, int born) {
            this.function = function;
            this.kind = kind;
            this.p = p;
            this.q = q;
            this.born = born;
            this.lastHeld = NONE;
            this.marked = false;
        }

        boolean isHeldIn(World world) {
            return firstDenialIn(world) == NONE;
        }

        int firstDenialIn(World world) {
            for (int run = 0; run < RUNS; run++) {
                if (isDeniedBy(run, world)) {
                    return run;
                }
            }
            return NONE;
        }

        int harmIn(World world) {
            int many = 0;
            for (int run = 0; run < RUNS; run++) {
                if (isDeniedBy(run, world)) {
                    many++;
                }
            }
            return many;
        }

        private boolean isDeniedBy(int run, World world) {
            int given = world.given(function, run);
            boolean refused = given == NO_NUMBER;
            int x = run / SIDE;
            int y = run % SIDE;
            switch (kind) {
                case BETWEEN:
                    return !refused && (given < p || given > q);
                case NEVER_REFUSED:
                    return refused;
                case RISING:
                    // Where x is the last one, there is no next run, and that has NO_NUMBER too.
                    int next = world.given(function, run + SIDE);
                    return !refused && next != NO_NUMBER && next < given;
                case MULTIPLE:
                    return !refused && p > 0 && given % p != 0;
                case LIKE_BOTH_WAYS:
                    return given != world.given(function, y * SIDE + x);
                case EXAMPLE:
                    return run == p && given != q;
                case REFUSES_FROM:
                    return refused == x < p;
                case AS_FUNCTION:
                    return given != world.given(p, run);
                default:
                    return false;
            }
        }
    }
}
