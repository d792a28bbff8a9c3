import java.util.ArrayList;
import java.util.List;

/**
 * "What is refused changes nothing.", of every call: of two objects that were made alike, one gets
 * calls that are refused; both must then answer alike, whatever comes.
 */
final class EdgesOfRefusals {

    private static final String SENTENCE = "What is refused changes nothing.";

    private static final String ORDINARY = """
        step 0 2501 = 1
        step 0 7512 = 2
        step 0 8000 = 3
        step 1 9000 = 1
        step 1 1497 = 2
        step 3 9000 = 1
        step 3 9001 = 2
        step 3 3502 = 3
        claim 0 0 0 11 = 0        # held
        claim 0 1 0 0 = 1         # stale, and no MEND
        claim 1 2 7 8 = 2         # held
        claim 1 3 5 8 = 3         # stale
        claim 3 4 7 8 = 4         # stale, and no MEND
        claim 3 5 17 9 = 5        # broken
        claim 0 6 10 8 = 6        # broken
        claim 3 7 1 8 = 7         # stale, and no MEND
        keep = 1
        claim 1 0 5 6 = 8         # broken
        claim 0 5 255 3 = 9       # broken, and no MEND
        change 1 1 1498 = yes
        keep = 2
        change 3 2 3503 = yes     # NOW is no state
        mark 3 = yes
        mark 2 = yes
        """;

    private static final String NO_MEND = """
        mended 0 = no
        mended 1 = no
        mended 2 = no
        mended 4 = no
        mended 7 = no
        mended 9 = no
        mend 0 0 = refused
        mend 0 1 = refused
        mend 1 0 = refused
        mend 3 1 = refused
        mend 5 1 = refused
        mend 9 0 = refused
        """;

    private static final int[] NO_STEPS = {-1, -500, -999, -1000, 9005, 9999, 10000, 11000, Integer.MIN_VALUE,
        Integer.MAX_VALUE};

    private static final List<List<String>> AFTER = List.of(claimsAfter(), listsAfter(), runsAfter(), changesAfter());

    private EdgesOfRefusals() {
    }

    static void hold() {
        Sentence.of(Sentence.TERMS, SENTENCE).hold(ORDINARY).hold(NO_MEND).hold("told 9 4 = 3\ncount 0 = 10");
        inAnyObject("a new one", "");
        inAnyObject("an ordinary one", ORDINARY);
        inAnyObject("a full one", full());
        inNewObject();
        inOrdinaryObject();
        inFullObject();
        whatOnlyAsks();
    }

    private static void inAnyObject(String which, String made) {
        int[] functions = Outside.of(0, 5);
        int[] sides = Outside.of(0, 15);
        int[] claims = Outside.of(0, 39);
        twins(which + ", clear", made, lines("clear * = no", functions));
        twins(which + ", step", made, lines("step * 507 = none", functions) + lines("step 5 * = none", NO_STEPS));
        twins(which + ", change", made, lines("change * 0 507 = no", functions)
                + lines("change 0 * 507 = no", Outside.of(0, 11)) + lines("change 5 0 * = no", NO_STEPS));
        twins(which + ", run", made, lines("run * 0 0 = refused", functions) + lines("run 0 * 0 = refused", sides)
                + lines("run 0 0 * = refused", sides));
        twins(which + ", was", made, lines("was * 0 0 0 = refused", Outside.of(0, 30))
                + lines("was 0 * 0 0 = refused", functions) + lines("was 0 0 * 0 = refused", sides)
                + lines("was 0 0 0 * = refused", sides));
        twins(which + ", claim", made, lines("claim * 1 0 0 = none", functions)
                + lines("claim 0 * 1 1 = none", Outside.of(0, 7)) + lines("claim 0 0 1 * = none", 0, -1, 1000001));
        twins(which + ", claim by numbers", made, lines("claim 0 0 * 5 = none", -1000001, 6)
                + lines("claim 0 3 * 0 = none", 0, 1001) + lines("claim 0 5 * 0 = none", -1, 256)
                + lines("claim 0 5 0 * = none", -1000001, 1000001) + lines("claim 0 6 * 0 = none", -1, 17)
                + lines("claim 0 7 * 0 = none", -1, 6));
        twins(which + ", told", made, lines("told * 0 = refused", claims) + lines("told 0 * = refused", Outside.of(0, 7)));
        twins(which + ", denied", made, lines("denied * = none", claims));
        twins(which + ", mend", made, lines("mend * 0 = refused", claims) + lines("mend * 1 = refused", claims)
                + lines("mend 0 * = refused", Outside.of(0, 1)));
        twins(which + ", mended", made, lines("mended * = no", claims));
        twins(which + ", mark", made, lines("mark * = no", claims));
        twins(which + ", listed", made, lines("listed * = none", Outside.of(0, 39)));
        twins(which + ", missing and count", made, lines("missing * = none", functions)
                + lines("count * = none", Outside.of(0, 25)) + lines("count * = none", 6, 9, 16, 19));
    }

    private static void inNewObject() {
        twins("a new one, where there is nothing", "", """
            change 0 0 507 = no
            change 5 0 507 = no
            step 0 9000 = none
            was 1 0 0 0 = refused
            told 0 0 = refused
            denied 0 = none
            mend 0 0 = refused
            mended 0 = no
            mark 0 = no
            listed 0 = none
            """);
    }

    private static void inOrdinaryObject() {
        twins("an ordinary one, two STEPS 9", ORDINARY, """
            step 3 9000 = none
            step 3 9002 = none
            change 3 2 9000 = no
            change 3 0 9003 = no
            change 3 3 507 = no
            change 2 0 507 = no
            """);
        twins("an ordinary one, no MEND", ORDINARY, NO_MEND);
        twins("an ordinary one, MARKS", ORDINARY, "mark 3 = no\nmark 2 = no\nmark 3 = no\nmark 10 = no");
        twins("an ordinary one, behind the last", ORDINARY, """
            was 3 0 0 0 = refused
            told 10 0 = refused
            denied 10 = none
            mend 10 0 = refused
            mended 10 = no
            listed 8 = none
            """);
    }

    private static void inFullObject() {
        twins("a full one, keep", full(), "keep = none\nkeep = none\nkeep = none");
        twins("a full one, step", full(), "step 0 1501 = none\nstep 0 8000 = none\nstep 0 500 = none");
        twins("a full one, claim", full(), lines("claim 0 * 1 1 = none", 0, 1, 2, 3, 4, 5, 6, 7));
        twins("a full one, mark", full(), lines("mark * = no", 0, 7, 39));
    }

    private static void whatOnlyAsks() {
        for (int i = 0; i < 3; i++) {
            Script one = new Script("what asks changes nothing").hold(ORDINARY);
            Script other = new Script("what asks changes nothing").hold(ORDINARY);
            for (String call : AFTER.get(i)) {
                one.answer(call);
            }
            // behind so many calls, what changes something, and a few that ask, have room
            compare("what asks changes nothing", one, other, changesAfter().subList(0, 130));
        }
    }

    private static void twins(String which, String made, String refused) {
        String title = SENTENCE + " " + which;
        for (List<String> after : AFTER) {
            Script one = new Script(title).hold(made).hold(refused);
            Script other = new Script(title).hold(made);
            compare(title, one, other, after);
        }
    }

    private static void compare(String title, Script one, Script other, List<String> calls) {
        for (String call : calls) {
            Script.due(title + ", then " + call, one.answer(call), other.answer(call));
        }
    }

    private static String lines(String line, int... values) {
        StringBuilder all = new StringBuilder();
        for (int value : values) {
            all.append(line.replace("*", String.valueOf(value))).append('\n');
        }
        return all.toString();
    }

    /**
     * 12 STEPS, 30 states, 40 CLAIMS of all KINDS, some of them with a MARK. Some are held NOW that were
     * in no state but the first, so that a state which is kept by mistake shows.
     */
    private static String full() {
        StringBuilder made = new StringBuilder("step 0 2501 = 1\n");
        for (int k = 2; k <= 12; k++) {
            made.append("step 0 ").append(k == 6 ? 7508 : k == 7 ? 8000 : 1499).append(" = ").append(k).append('\n');
        }
        made.append("step 5 9000 = 1\n");
        for (int claim = 0; claim < 40; claim++) {
            made.append("claim ").append(claim % 3 == 0 ? 5 : 0).append(' ').append(claim % 8).append(" 3 4 = ")
                    .append(claim).append('\n');
        }
        for (int state = 1; state <= 30; state++) {
            made.append("keep = ").append(state).append('\n');
        }
        return made.append("change 0 0 500 = yes\nmark 0 = yes\nmark 7 = yes\nmark 39 = yes\n").toString();
    }

    private static List<String> claimsAfter() {
        List<String> calls = new ArrayList<>();
        for (int claim = 0; claim < 40; claim++) {
            for (int what : new int[] {0, 3, 4, 5, 6, 7}) {
                calls.add("told " + claim + " " + what);
            }
        }
        return calls;
    }

    private static List<String> listsAfter() {
        List<String> calls = new ArrayList<>();
        for (int what = 0; what <= 26; what++) {
            calls.add("count " + what);
        }
        for (int function = 0; function < 6; function++) {
            calls.add("missing " + function);
        }
        for (int claim = 0; claim < 40; claim++) {
            calls.add("listed " + claim);
            calls.add("denied " + claim);
            calls.add("mend " + claim + " 0");
            calls.add("mend " + claim + " 1");
        }
        return calls;
    }

    private static List<String> runsAfter() {
        List<String> calls = new ArrayList<>();
        for (int function = 0; function < 6; function++) {
            for (int run = 0; run < 256; run += 15) {
                calls.add("run " + function + " " + run / 16 + " " + run % 16);
            }
            for (int state : new int[] {0, 1, 2, 3, 29, 30, 31}) {
                calls.add("was " + state + " " + function + " 15 0");
                calls.add("was " + state + " " + function + " 1 15");
            }
        }
        return calls;
    }

    /** What was remembered of states and CLAIMS shows only as things go on. */
    private static List<String> changesAfter() {
        List<String> calls = new ArrayList<>();
        for (int function = 0; function < 6; function++) {
            calls.add("step " + function + " 1503");
            calls.add("change " + function + " 2 1507");
            calls.add("run " + function + " 3 4");
        }
        for (int claim = 0; claim < 40; claim++) {
            calls.add("told " + claim + " 6");
            calls.add("mended " + claim);
            calls.add("told " + claim + " 3");
        }
        calls.add("keep");
        for (int function = 0; function < 6; function++) {
            calls.add("clear " + function);
            calls.add("count 1" + function);
            calls.add("step " + function + " 507");
            calls.add("claim " + function + " 5 0 7");
        }
        for (int claim = 0; claim < 40; claim++) {
            calls.add("told " + claim + " 0");
            calls.add("told " + claim + " 6");
            calls.add("mark " + claim);
        }
        return calls;
    }
}
