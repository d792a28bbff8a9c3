import java.util.ArrayList;
import java.util.Comparator;
import java.util.List;

/**
 * The document's words taken as literally as they go, for RandomRunsTest: nothing is remembered but
 * steps, kept steps and claims, and every answer is worked out from them. null is REFUSED.
 */
public final class Model {

    private static final int NO = Integer.MIN_VALUE;

    private static final class Told {
        int function;
        int kind;
        int p;
        int q;
        int came;
        boolean marked;
    }

    private List<List<Integer>> code = new ArrayList<>();
    private final List<List<List<Integer>>> states = new ArrayList<>();
    private final List<Integer[][]> worlds = new ArrayList<>();
    private Integer[][] nowWorld;
    private final List<Told> claims = new ArrayList<>();

    public Model() {
        for (int f = 0; f < 6; f++) {
            code.add(new ArrayList<>());
        }
        store();
    }

    private void store() {
        List<List<Integer>> copy = new ArrayList<>();
        for (List<Integer> row : code) {
            copy.add(new ArrayList<>(row));
        }
        states.add(copy);
        worlds.add(world(copy));
    }

    private static Integer[][] world(List<List<Integer>> of) {
        Integer[][] all = new Integer[6][256];
        for (int f = 0; f < 6; f++) {
            for (int r = 0; r < 256; r++) {
                all[f][r] = gives(of, f, r / 16, r % 16);
            }
        }
        return all;
    }

    private static Integer gives(List<List<Integer>> of, int f, int x, int y) {
        long reg = 0;
        List<Integer> row = of.get(f);
        for (int k = 0; k < row.size(); k++) {
            int a = row.get(k) % 1000;
            int b = a - 500;
            int op = row.get(k) / 1000;
            if (op == 0) {
                reg = b;
            } else if (op == 1) {
                reg += b;
            } else if (op == 2) {
                reg += (long) b * x;
            } else if (op == 3) {
                reg += (long) b * y;
            } else if (op == 4) {
                reg *= b;
            } else if (op == 5 && reg > b) {
                reg = b;
            } else if (op == 6 && reg < b) {
                reg = b;
            } else if (op == 7 && reg < b) {
                k++;
            } else if (op == 8) {
                return null;
            } else if (op == 9) {
                Integer inner = gives(of, a, x, y);
                if (inner == null) {
                    return null;
                }
                reg = inner;
            } else if (op == 10) {
                reg = ((reg % a) + a) % a;
            }
            if (reg > 1000000 || reg < -1000000) {
                return null;
            }
        }
        return (int) reg;
    }

    private Integer[][] now() {
        if (nowWorld == null) {
            nowWorld = world(code);
        }
        return nowWorld;
    }

    private static boolean same(Integer one, Integer other) {
        return one == null ? other == null : one.equals(other);
    }

    private static boolean denies(Integer[][] w, Told c, int x, int y, int p) {
        Integer g = w[c.function][16 * x + y];
        switch (c.kind) {
            case 0: return g != null && (g < p || g > c.q);
            case 1: return g == null;
            case 2: return x < 15 && g != null && w[c.function][16 * x + 16 + y] != null
                    && w[c.function][16 * x + 16 + y] < g;
            case 3: return g != null && g % p != 0;
            case 4: return !same(g, w[c.function][16 * y + x]);
            case 5: return x == p / 16 && y == p % 16 && !same(g, c.q);
            case 6: return g == null && x < p || g != null && x >= p;
            default: return !same(g, w[p][16 * x + y]);
        }
    }

    private static List<Integer> deniers(Integer[][] w, Told c, int p) {
        List<Integer> found = new ArrayList<>();
        for (int x = 0; x < 16; x++) {
            for (int y = 0; y < 16; y++) {
                if (denies(w, c, x, y, p)) {
                    found.add(16 * x + y);
                }
            }
        }
        return found;
    }

    private boolean heldIn(int state, Told c) {
        Integer[][] w = state < worlds.size() ? worlds.get(state) : now();
        return deniers(w, c, c.p).isEmpty();
    }

    private int harm(Told c) {
        return deniers(now(), c, c.p).size();
    }

    /** Where it went stale, 0 if it is held and NONE if it is broken. */
    private int since(Told c) {
        int next = worlds.size();
        for (int state = next; state >= c.came; state--) {
            if (heldIn(state, c)) {
                return state == next ? 0 : state + 1;
            }
        }
        return -1;
    }

    private int standing(Told c) {
        int since = since(c);
        return since == 0 ? 0 : since == -1 ? 1 : 2;
    }

    private boolean none(int claim) {
        return claim < 0 || claim >= claims.size();
    }

    private static boolean noFunction(int f) {
        return f < 0 || f > 5;
    }

    private boolean fits(int f, List<Integer> row) {
        int nines = 0;
        for (int step : row) {
            int op = Math.floorDiv(step, 1000);
            int a = Math.floorMod(step, 1000);
            if (op < 0 || op > 10 || op == 10 && a == 0 || op == 9 && a >= f) {
                return false;
            }
            nines += op == 9 ? 1 : 0;
        }
        return nines <= 2 && row.size() <= 12;
    }

    public boolean clear(int f) {
        if (noFunction(f)) {
            return false;
        }
        code.set(f, new ArrayList<>());
        nowWorld = null;
        return true;
    }

    public int step(int f, int step) {
        if (noFunction(f)) {
            return -1;
        }
        List<Integer> row = new ArrayList<>(code.get(f));
        row.add(step);
        return become(f, row) ? row.size() : -1;
    }

    public boolean change(int f, int k, int step) {
        if (noFunction(f) || k < 0 || k >= code.get(f).size()) {
            return false;
        }
        List<Integer> row = new ArrayList<>(code.get(f));
        row.set(k, step);
        return become(f, row);
    }

    private boolean become(int f, List<Integer> row) {
        if (!fits(f, row)) {
            return false;
        }
        code.set(f, row);
        nowWorld = null;
        return true;
    }

    public int run(int f, int x, int y) {
        return runIn(code, f, x, y);
    }

    private static int runIn(List<List<Integer>> of, int f, int x, int y) {
        if (noFunction(f) || x < 0 || x > 15 || y < 0 || y > 15) {
            return NO;
        }
        Integer g = gives(of, f, x, y);
        return g == null ? NO : g;
    }

    public int keep() {
        if (states.size() == 31) {
            return -1;
        }
        store();
        return states.size() - 1;
    }

    public int was(int state, int f, int x, int y) {
        return state < 0 || state >= states.size() ? NO : runIn(states.get(state), f, x, y);
    }

    public int claim(int f, int kind, int p, int q) {
        boolean numbers = switch (kind) {
            case 0 -> p >= -1000000 && p <= q && q <= 1000000;
            case 1, 2, 4 -> true;
            case 3 -> p >= 1 && p <= 1000;
            case 5 -> p >= 0 && p <= 255 && q >= -1000000 && q <= 1000000;
            case 6 -> p >= 0 && p <= 16;
            case 7 -> p >= 0 && p <= 5;
            default -> false;
        };
        if (noFunction(f) || !numbers || claims.size() == 40) {
            return -1;
        }
        Told c = new Told();
        c.function = f;
        c.kind = kind;
        c.p = p;
        c.q = q;
        c.came = states.size() - 1;
        claims.add(c);
        return claims.size() - 1;
    }

    public int told(int claim, int what) {
        if (none(claim)) {
            return NO;
        }
        Told c = claims.get(claim);
        return switch (what) {
            case 0 -> standing(c);
            case 1 -> c.function;
            case 2 -> c.kind;
            case 3 -> c.p;
            case 4 -> c.q;
            case 5 -> harm(c);
            case 6 -> since(c) == 0 ? -1 : since(c);
            case 7 -> c.marked ? 1 : 0;
            default -> NO;
        };
    }

    public int denied(int claim) {
        if (none(claim) || harm(claims.get(claim)) == 0) {
            return -1;
        }
        return deniers(now(), claims.get(claim), claims.get(claim).p).get(0);
    }

    public int mend(int claim, int what) {
        if (none(claim) || harm(claims.get(claim)) == 0) {
            return NO;
        }
        Told c = claims.get(claim);
        if (c.kind == 0 && (what == 0 || what == 1)) {
            int least = NO;
            int most = NO;
            for (Integer g : now()[c.function]) {
                if (g != null) {
                    least = least == NO || g < least ? g : least;
                    most = most == NO || g > most ? g : most;
                }
            }
            return what == 0 ? least : most;
        }
        if (what != 0) {
            return NO;
        }
        if (c.kind == 5) {
            Integer g = now()[c.function][c.p];
            return g == null ? NO : g;
        }
        int from = c.kind == 3 ? 1000 : c.kind == 6 ? 16 : -1;
        for (int p = from; p >= (c.kind == 3 ? 1 : 0); p--) {
            if (deniers(now(), c, p).isEmpty()) {
                return p;
            }
        }
        return NO;
    }

    public boolean mended(int claim) {
        int first = mend(claim, 0);
        int second = mend(claim, 1);
        if (first == NO) {
            return false;
        }
        Told c = claims.get(claim);
        if (c.kind == 5) {
            c.q = first;
        } else {
            c.p = first;
        }
        if (c.kind == 0) {
            c.q = second;
        }
        return true;
    }

    public boolean mark(int claim) {
        if (none(claim) || claims.get(claim).marked) {
            return false;
        }
        claims.get(claim).marked = true;
        return true;
    }

    public int listed(int i) {
        List<Integer> list = new ArrayList<>();
        for (int c = 0; c < claims.size(); c++) {
            if (!claims.get(c).marked && harm(claims.get(c)) > 0) {
                list.add(c);
            }
        }
        list.sort(Comparator.comparingInt(c -> -harm(claims.get(c))));
        return i < 0 || i >= list.size() ? -1 : list.get(i);
    }

    public int missing(int f) {
        if (noFunction(f)) {
            return -1;
        }
        boolean refuses = false;
        boolean below = false;
        for (Integer g : now()[f]) {
            refuses |= g == null;
            below |= g != null && g < 0;
        }
        boolean any = claims.stream().anyMatch(c -> c.function == f);
        boolean ofRefusal = claims.stream().anyMatch(c -> c.function == f && (c.kind == 1 || c.kind == 6));
        boolean ofBounds = claims.stream().anyMatch(c -> c.function == f && c.kind == 0);
        return (refuses && !ofRefusal ? 1 : 0) + (below && !ofBounds ? 2 : 0)
                + (!code.get(f).isEmpty() && !any ? 4 : 0);
    }

    public int count(int what) {
        switch (what) {
            case 0: return claims.size();
            case 1: return states.size() - 1;
            case 2:
            case 3:
            case 4: return (int) claims.stream().filter(c -> standing(c) == what - 2).count();
            case 5: return (int) claims.stream().filter(c -> c.marked).count();
            default:
        }
        if (what >= 10 && what <= 15) {
            return code.get(what - 10).size();
        }
        if (what >= 20 && what <= 25) {
            int refused = 0;
            for (Integer g : now()[what - 20]) {
                refused += g == null ? 1 : 0;
            }
            return refused;
        }
        return -1;
    }
}
