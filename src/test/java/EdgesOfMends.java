/** The document's Terms, part 3: what is missing, MENDS and the list; and the constant. */
final class EdgesOfMends {

    private static final String TERMS = Sentence.TERMS;

    private EdgesOfMends() {
    }

    static void hold() {
        missingRefusals();
        missingBelowZero();
        missingClaims();
        heldHasNone();
        between();
        multiple();
        example();
        refuses();
        others();
        whereTheNumbersGo();
        marks();
        order();
        constant();
    }

    private static void missingRefusals() {
        Sentence.hold(TERMS, "MISSING of a FUNCTION: bit 0: some RUN is REFUSED, and there is no CLAIM of KIND 1 or 6 "
                + "of it;", """
            step 0 2501 = 1
            step 0 3501 = 2
            step 0 7531 = 3
            step 0 8000 = 4
            missing 0 = 4             # none is refused
            change 0 2 7530 = yes
            missing 0 = 5             # one is
            claim 0 0 0 9 = 0
            claim 0 2 0 0 = 1
            claim 0 3 1 0 = 2
            claim 0 4 0 0 = 3
            claim 0 5 0 0 = 4
            claim 0 7 0 0 = 5
            claim 1 1 0 0 = 6
            claim 1 7 0 0 = 7
            missing 0 = 1             # none of these is of KIND 1 or 6 and of it
            claim 0 1 0 0 = 8
            missing 0 = 0
            step 5 8000 = 1
            claim 5 6 0 0 = 9
            missing 5 = 0
            step 4 8000 = 1
            claim 4 6 16 0 = 10
            missing 4 = 0             # whether it is held or not
            """);
    }

    private static void missingBelowZero() {
        Sentence.hold(TERMS, "bit 1: some RUN GIVES less than 0, and there is no CLAIM of KIND 0 of it;", """
            step 0 2499 = 1
            step 0 3499 = 2
            step 0 1530 = 3
            missing 0 = 4             # 0 isn't less
            change 0 2 1529 = yes
            missing 0 = 6             # -1 is, once
            claim 0 1 0 0 = 0
            claim 0 2 0 0 = 1
            claim 0 3 1 0 = 2
            claim 0 4 0 0 = 3
            claim 0 5 0 0 = 4
            claim 0 6 0 0 = 5
            claim 0 7 0 0 = 6
            claim 1 0 0 0 = 7
            missing 0 = 2             # none of these is of KIND 0 and of it
            claim 0 0 5 5 = 8
            missing 0 = 0             # whether it is held or not
            step 1 8000 = 1
            missing 1 = 1             # what is refused gives nothing
            step 2 2501 = 1
            step 2 1485 = 2
            step 2 7500 = 3
            step 2 8000 = 4
            step 2 7500 = 5
            step 2 500 = 6
            missing 2 = 7             # some are refused, some less than 0
            """);
    }

    private static void missingClaims() {
        Sentence.hold(TERMS, "bit 2: it has STEPS, and there is no CLAIM of it at all.", """
            missing 0 = 0             # no STEPS
            missing 5 = 0
            step 0 500 = 1
            missing 0 = 4             # one that changes nothing too
            claim 1 7 0 0 = 0         # AS 0, but of 1
            missing 0 = 4
            clear 0 = yes
            missing 0 = 0             # no STEPS any more
            step 0 500 = 1
            missing 0 = 4
            claim 0 4 0 0 = 1
            missing 0 = 0
            mark 1 = yes
            missing 0 = 0             # it is there still
            step 5 9000 = 1
            missing 5 = 4
            """);
        for (int kind = 0; kind < 8; kind++) {
            new Script("one claim is enough, of kind " + kind).hold("step 4 501 = 1\nmissing 4 = 4")
                    .each("claim 4 * 1 1 = 0", kind).hold("missing 4 = 0");
        }
        Script forty = new Script("forty claims, but none of it").hold("step 0 8000 = 1\nstep 5 499 = 1");
        for (int claim = 0; claim < 40; claim++) {
            forty.each("claim 3 1 0 0 = *", claim);
        }
        forty.hold("missing 0 = 5\nmissing 5 = 6\nmissing 3 = 0");
    }

    private static void heldHasNone() {
        Sentence.hold(TERMS, "MEND of a CLAIM that isn't HELD:", """
            claim 0 0 -5 5 = 0
            claim 0 3 7 0 = 1
            claim 0 5 0 0 = 2
            claim 0 6 16 0 = 3
            mend 0 0 = refused        # these are held
            mend 0 1 = refused
            mend 1 0 = refused
            mend 2 0 = refused
            mend 3 0 = refused
            mended 0 = no
            mended 1 = no
            mended 2 = no
            mended 3 = no
            told 0 3 = -5
            step 0 506 = 1            # stale
            mend 0 0 = 6
            mend 0 1 = 6
            mend 1 0 = 6
            mend 2 0 = 6
            claim 0 5 0 1 = 4         # broken
            mend 4 0 = 6
            """);
    }

    private static void between() {
        Sentence.hold(TERMS, "KIND 0: the least and the most that it GIVES", """
            step 0 2501 = 1
            step 0 3501 = 2
            claim 0 0 5 6 = 0
            mend 0 0 = 0              # of the first run alone
            mend 0 1 = 30             # of the last one
            step 0 4499 = 3
            mend 0 0 = -30
            mend 0 1 = 0
            step 0 7480 = 4
            step 0 8000 = 5
            mend 0 0 = -30            # what is refused doesn't count
            mend 0 1 = -21
            mended 0 = yes
            told 0 3 = -30
            told 0 4 = -21
            told 0 0 = 0
            step 1 400 = 1
            step 1 4600 = 2
            step 1 4600 = 3
            claim 1 0 0 0 = 1
            mend 1 0 = -1000000       # all give the same
            mend 1 1 = -1000000
            change 1 0 600 = yes
            mend 1 0 = 1000000
            mend 1 1 = 1000000
            mended 1 = yes
            told 1 0 = 0
            """);
        Sentence.hold(TERMS, "(no MEND, if all RUNS are REFUSED).", """
            claim 0 0 1 2 = 0
            mend 0 0 = 0
            step 0 8000 = 1
            mend 0 0 = refused
            mend 0 1 = refused
            mended 0 = no
            told 0 3 = 1
            told 0 4 = 2
            change 0 0 2501 = yes
            step 0 3501 = 2
            step 0 7501 = 3
            step 0 8000 = 4
            mend 0 0 = 0              # all but one
            mend 0 1 = 0
            """);
    }

    private static void multiple() {
        Sentence.hold(TERMS, "3: the greatest p (1 .. 1000) by which it is HELD.", """
            step 0 2494 = 1
            step 0 3509 = 2
            claim 0 3 2 77 = 0
            mend 0 0 = 3              # of -6 x and 9 y
            clear 0 = yes
            step 0 600 = 1
            step 0 4600 = 2
            step 0 4600 = 3
            claim 0 3 999 0 = 1
            mend 1 0 = 1000           # 1000000 is one of 1250 too
            change 0 0 400 = yes
            mend 1 0 = 1000
            clear 0 = yes
            step 0 999 = 1
            step 0 1999 = 2
            step 0 1503 = 3           # 1001 is 7 times 143
            claim 0 3 1000 0 = 2
            mend 2 0 = 143
            change 0 2 1502 = yes     # 1000
            claim 0 3 3 0 = 3
            mend 3 0 = 1000
            change 0 2 1501 = yes     # 999
            mend 2 0 = 999
            change 0 2 1511 = yes     # 1009 is a prime
            mend 2 0 = 1
            mended 2 = yes
            told 2 3 = 1
            told 2 0 = 0
            clear 0 = yes
            step 0 2502 = 1           # 0, 2, 4 and so on
            mend 1 0 = 2
            """);
        new Script("the greatest p, by a single run").hold("""
            step 0 2501 = 1
            step 0 3501 = 2
            step 0 5501 = 3
            step 0 4506 = 4
            step 0 1506 = 5           # 6 first, then 12
            claim 0 3 5 0 = 0
            mend 0 0 = 6
            change 0 2 7530 = yes
            change 0 3 8000 = yes
            change 0 4 10001 = yes
            step 0 1512 = 6           # the last one is refused
            mend 0 0 = 12
            clear 0 = yes
            step 0 2501 = 1
            mend 0 0 = 1              # 0 .. 15
            change 0 0 2505 = yes
            mend 0 0 = refused        # held by 5
            change 0 0 2510 = yes
            step 0 1505 = 2
            claim 0 3 2 0 = 1
            mend 1 0 = 5
            """);
    }

    private static void example() {
        Sentence.hold(TERMS, "5: what that RUN GIVES (none, if it is REFUSED).", """
            step 0 2516 = 1
            step 0 3501 = 2
            claim 0 5 255 0 = 0
            claim 0 5 16 0 = 1
            claim 0 5 0 7 = 2
            mend 0 0 = 255
            mend 1 0 = 16
            mend 2 0 = 0
            step 0 7655 = 3           # refused, where it gives 155 or more
            step 0 8000 = 4
            mend 0 0 = refused
            mended 0 = no
            told 0 4 = 0
            mend 1 0 = 16
            mended 1 = yes
            told 1 4 = 16
            told 1 0 = 0
            """);
    }

    private static void refuses() {
        Sentence.hold(TERMS, "6: the p by which it is HELD (none, if there is none).", """
            claim 0 6 8 0 = 0
            mend 0 0 = 16             # none is refused
            step 0 8000 = 1
            mend 0 0 = 0              # all are
            change 0 0 2501 = yes
            step 0 7501 = 2
            step 0 8000 = 3
            mend 0 0 = 1
            change 0 1 7515 = yes
            mend 0 0 = 15
            change 0 1 7511 = yes
            mend 0 0 = 11
            change 0 0 3501 = yes
            mend 0 0 = refused        # by y there is none
            mended 0 = no
            told 0 3 = 8
            change 0 0 2499 = yes
            change 0 1 7491 = yes
            mend 0 0 = refused        # up to x 9 instead
            change 0 0 2501 = yes
            step 1 2501 = 1
            step 1 3501 = 2
            step 1 7530 = 3
            step 1 8000 = 4
            claim 1 6 16 0 = 1
            mend 1 0 = refused        # one run is too many
            mended 1 = no
            """);
        new Script("no p, where one run isn't refused").hold("""
            step 0 2499 = 1
            step 0 3499 = 2
            step 0 1530 = 3
            step 0 7501 = 4           # left out for the last run alone
            step 0 8000 = 5
            run 0 15 15 = 0
            count 20 = 255
            claim 0 6 0 0 = 0
            mend 0 0 = refused
            """);
        new Script("no p, where as many are refused as by p 1").hold("""
            step 0 2499 = 1
            step 0 3499 = 2
            step 0 7500 = 3
            step 0 8000 = 4           # the first run is refused
            step 1 9000 = 1
            step 1 500 = 2
            step 1 2501 = 3
            step 1 3501 = 4
            step 1 1470 = 5
            step 1 7500 = 6
            step 1 400 = 7            # for the last run alone
            step 1 3499 = 8
            step 1 1530 = 9           # x, but of the last run less than 0
            step 1 7501 = 10
            step 1 8000 = 11
            run 1 0 0 = refused
            run 1 0 1 = 0
            run 1 1 0 = refused
            run 1 15 14 = refused
            run 1 15 15 = -85
            count 21 = 240
            claim 1 6 1 0 = 0
            told 0 5 = 2
            mend 0 0 = refused
            mended 0 = no
            """);
    }

    private static void others() {
        Script others = Sentence.of(TERMS, "Others: none.");
        others.hold("step 0 2499 = 1\nstep 0 7491 = 2\nstep 0 8000 = 3");
        others.hold("claim 0 1 3 4 = 0\nclaim 0 2 3 4 = 1\nclaim 0 4 3 4 = 2\nclaim 0 7 3 4 = 3\ncount 2 = 0");
        others.each("mend * 0 = refused", 0, 1, 2, 3).each("mend * 1 = refused", 0, 1, 2, 3);
        others.each("mended * = no", 0, 1, 2, 3).each("told * 3 = 3", 0, 1, 2, 3).each("told * 4 = 4", 0, 1, 2, 3);
    }

    private static void whereTheNumbersGo() {
        Sentence.hold(TERMS, "(The first of these numbers is p, but of 5: q; the second one is q, of 0.)", """
            step 0 2503 = 1
            claim 0 0 1 2 = 0
            claim 0 3 7 -8 = 1
            claim 0 5 32 -8 = 2
            claim 0 6 3 -8 = 3
            mended 0 = yes
            told 0 3 = 0
            told 0 4 = 45
            mended 1 = yes
            told 1 3 = 3
            told 1 4 = -8
            mended 2 = yes
            told 2 3 = 32
            told 2 4 = 6
            mended 3 = yes
            told 3 3 = 16
            told 3 4 = -8
            mend 1 1 = refused
            """);
    }

    private static void marks() {
        Sentence.hold(TERMS, "A MARK of a CLAIM: it was meant otherwise: it counts no more for the list of those that "
                + "aren't HELD:", """
            listed 0 = none
            claim 0 0 0 0 = 0
            listed 0 = none           # it is held
            claim 0 0 1 1 = 1
            claim 0 0 2 2 = 2
            listed 0 = 1
            listed 1 = 2
            listed 2 = none
            mark 1 = yes
            listed 0 = 2
            listed 1 = none
            count 3 = 2               # but for the list it counts
            mark 2 = yes
            listed 0 = none
            mark 0 = yes              # one that is held too
            step 0 503 = 1
            listed 0 = none
            count 2 = 0
            """);
    }

    private static void order() {
        Script forty = Sentence.of(TERMS, "by HARM, the most first, of like ones by numbers.");
        forty.hold("step 0 2501 = 1\nstep 0 3516 = 2");
        // x and 16 y are 0 .. 255, each once, so that a claim 0 .. q does a harm of 255 - q
        for (int claim = 0; claim < 40; claim++) {
            forty.hold("claim 0 0 0 " + (255 - (claim * 7 % 20)) + " = " + claim);
        }
        int[] byHarm = new int[40];
        int many = 0;
        for (int harm = 19; harm > 0; harm--) {
            for (int claim = 0; claim < 40; claim++) {
                if (claim * 7 % 20 == harm) {
                    byHarm[many++] = claim;
                }
            }
        }
        for (int i = 0; i < many; i++) {
            forty.hold("listed " + i + " = " + byHarm[i]);
        }
        // two do no harm
        forty.hold("listed 38 = none\nlisted 39 = none\nlisted 40 = none");
        Script like = new Script("a list of forty like ones");
        for (int claim = 0; claim < 40; claim++) {
            like.each("claim 0 0 1 2 = *", claim);
        }
        for (int claim = 0; claim < 40; claim++) {
            like.hold("listed " + claim + " = " + claim);
        }
        like.hold("listed 40 = none");
    }

    private static void constant() {
        Sentence.of(TERMS, "The constants: `NONE = -1`: There is none.").hold("step 6 500 = none");
        Script.due("NONE", WordsBeside.NONE, -1);
    }
}
