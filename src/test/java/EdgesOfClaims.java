/** The document's Terms, part 2: by which RUNS a CLAIM is denied, and how it stands. */
final class EdgesOfClaims {

    private static final String TERMS = Sentence.TERMS;

    private EdgesOfClaims() {
    }

    static void hold() {
        forty();
        between();
        neverRefused();
        rising();
        risingAroundRefusals();
        multiple();
        like();
        example();
        refuses();
        as();
        held();
        broken();
        statesThatCount();
        stale();
        now();
        harm();
    }

    private static void forty() {
        Script forty = Sentence.of(TERMS, "CLAIMS have numbers as they come, at most 40:");
        forty.hold("claim 0 8 0 0 = none");
        for (int claim = 0; claim < 40; claim++) {
            forty.each("claim " + claim % 6 + " 1 0 0 = *", claim);
        }
        forty.hold("""
            claim 0 1 0 0 = none
            claim 5 0 0 0 = none
            count 0 = 40
            told 0 1 = 0
            told 39 1 = 3
            told 40 1 = refused
            """);
        Sentence.hold(TERMS, "of a FUNCTION, a KIND, numbers p and q; a RUN DENIES it:", """
            claim 5 0 -1000000 1000000 = 0
            claim 0 7 5 3 = 1
            told 0 1 = 5
            told 0 2 = 0
            told 0 3 = -1000000
            told 0 4 = 1000000
            told 1 1 = 0
            told 1 2 = 7
            told 1 3 = 5
            told 1 4 = 3
            """);
    }

    private static void between() {
        Sentence.hold(TERMS, "0 BETWEEN p and q: if it GIVES less than p or more than q.", """
            step 0 2501 = 1
            step 0 1497 = 2           # -3 .. 12
            claim 0 0 -3 12 = 0
            told 0 5 = 0
            claim 0 0 -2 12 = 1
            told 1 5 = 16
            denied 1 = 0
            claim 0 0 -3 11 = 2
            told 2 5 = 16
            denied 2 = 240
            claim 0 0 5 5 = 3
            told 3 5 = 240
            step 1 600 = 1
            step 1 4600 = 2
            step 1 4600 = 3
            claim 1 0 -1000000 1000000 = 4
            claim 1 0 -1000000 999999 = 5
            told 4 5 = 0
            told 5 5 = 256
            change 1 0 400 = yes
            claim 1 0 -999999 1000000 = 6
            told 4 5 = 0
            told 6 5 = 256
            step 0 8000 = 3           # what is refused gives neither less nor more
            told 1 5 = 0
            told 2 5 = 0
            """);
    }

    private static void neverRefused() {
        Sentence.hold(TERMS, "1 NEVER REFUSED: if it is REFUSED.", """
            claim 0 1 0 0 = 0
            told 0 5 = 0
            step 0 2501 = 1
            step 0 3501 = 2
            step 0 7530 = 3
            step 0 8000 = 4
            told 0 5 = 1              # the last one alone
            denied 0 = 255
            change 0 0 8000 = yes
            told 0 5 = 256
            denied 0 = 0
            claim 1 1 0 0 = 1
            told 1 5 = 0              # those of another FUNCTION don't matter
            """);
    }

    private static void rising() {
        Sentence.hold(TERMS, "2 RISING: if it and the RUN with x one more GIVE, and that one gives less.", """
            claim 0 2 0 0 = 0
            told 0 5 = 0              # as much isn't less
            step 0 2501 = 1
            told 0 5 = 0              # behind x 15 comes none, and not x 0
            step 1 0 = 1
            told 0 5 = 0              # nor the next FUNCTION
            claim 5 2 0 0 = 1
            step 5 2501 = 1
            told 1 5 = 0
            change 5 0 2499 = yes
            told 1 5 = 240
            denied 1 = 0
            change 0 0 3499 = yes
            told 0 5 = 0              # less by y
            change 0 0 2501 = yes
            step 0 6514 = 2
            step 0 4499 = 3           # less from x 14 to x 15 alone
            told 0 5 = 16
            denied 0 = 224
            change 0 1 5501 = yes     # from x 0 to x 1 alone
            told 0 5 = 16
            denied 0 = 0
            """);
    }

    /** Its steps give -x, but for x 5: there alone is what is left by 16 no less than 0. */
    private static void risingAroundRefusals() {
        new Script("rising, where one of the two is refused").hold("""
            step 0 2501 = 1
            step 0 1511 = 2
            step 0 10016 = 3
            step 0 4499 = 4
            step 0 7500 = 5
            step 0 8000 = 6
            step 0 500 = 7
            step 0 2499 = 8
            run 0 4 0 = -4
            run 0 5 0 = refused
            run 0 6 0 = -6
            claim 0 2 0 0 = 0
            told 0 5 = 208            # neither x 4 nor x 5
            claim 0 0 -5 0 = 1
            denied 1 = 96
            change 0 1 1516 = yes     # x 0 is refused, not x 5
            denied 0 = 16
            told 0 5 = 224
            change 0 1 1501 = yes     # x 15 is
            denied 0 = 0
            told 0 5 = 224
            """);
    }

    private static void multiple() {
        Sentence.of(TERMS, "3 MULTIPLE of p (p 1 .. 1000): if it GIVES something whose rest by p isn't 0.")
                .each("claim 0 3 * 0 = none", Outside.of(1, 1000))
                .hold("""
                    claim 0 3 1000 0 = 0
                    told 0 5 = 0              # the rest of 0 is 0
                    claim 0 3 1 0 = 1
                    claim 0 3 3 0 = 2
                    step 0 2499 = 1
                    told 0 5 = 240
                    told 1 5 = 0              # by 1 there never is one
                    told 2 5 = 160            # of what is below 0 too
                    denied 2 = 16
                    change 0 0 2501 = yes
                    told 2 5 = 160
                    denied 2 = 16
                    change 0 0 600 = yes
                    step 0 4600 = 2
                    step 0 4600 = 3
                    told 0 5 = 0              # 1000000
                    step 0 1499 = 4
                    told 0 5 = 256
                    told 2 5 = 0              # 999999
                    change 0 3 8000 = yes
                    told 0 5 = 0              # nothing is given
                    """);
    }

    private static void like() {
        Sentence.hold(TERMS, "4 LIKE both ways: if it and the RUN with x and y turned about don't GIVE the same "
                + "(both REFUSED is the same).", """
            claim 0 4 0 0 = 0
            step 0 2516 = 1
            step 0 3501 = 2
            told 0 5 = 240            # those with an x that is y never do
            denied 0 = 1
            change 0 1 3516 = yes
            told 0 5 = 0
            clear 0 = yes
            step 0 2501 = 1
            step 0 7515 = 2
            step 0 8000 = 3
            step 0 500 = 4
            told 0 5 = 30             # one is refused, and both deny it
            denied 0 = 15
            clear 0 = yes
            step 0 2501 = 1
            step 0 3501 = 2
            step 0 7515 = 3
            step 0 8000 = 4
            count 20 = 136
            told 0 5 = 0              # both are refused, or both give the same
            change 0 0 8000 = yes
            told 0 5 = 0
            """);
    }

    private static void example() {
        Script example = Sentence.of(TERMS,
                "5 EXAMPLE: the RUN with x and y (p is 16 x and y): if it doesn't GIVE q; others never.");
        example.hold("step 0 2516 = 1\nstep 0 3501 = 2\nclaim 0 5 0 0 = 0\nclaim 0 5 15 15 = 1");
        example.hold("claim 0 5 16 16 = 2\nclaim 0 5 255 255 = 3\nclaim 0 5 255 254 = 4\nclaim 0 5 0 1 = 5");
        example.hold("claim 0 5 33 34 = 6").each("told * 5 = 0", 0, 1, 2, 3);
        example.each("denied * = none", 0, 1, 2, 3).each("told * 5 = 1", 4, 5, 6);
        example.hold("denied 4 = 255\ndenied 5 = 0\ndenied 6 = 33");
        example.each("claim 0 5 * 0 = none", Outside.of(0, 255));
        example.hold("""
            step 0 8000 = 3
            told 3 5 = 1              # refused isn't given
            denied 3 = 255
            clear 0 = yes
            told 0 5 = 0
            told 3 5 = 1
            """);
    }

    private static void refuses() {
        Sentence.of(TERMS, "6 REFUSES from p on (0 .. 16): if it is REFUSED, and x is below p, or it isn't, and x is p "
                + "at least.")
                .each("claim 0 6 * 0 = none", Outside.of(0, 16))
                .hold("""
                    claim 0 6 0 0 = 0
                    claim 0 6 16 0 = 1
                    claim 0 6 4 0 = 2
                    claim 0 6 5 0 = 3
                    claim 0 6 6 0 = 4
                    claim 0 6 15 0 = 5
                    told 0 5 = 256
                    told 1 5 = 0
                    told 5 5 = 16
                    denied 5 = 240
                    step 0 8000 = 1
                    told 0 5 = 0
                    told 1 5 = 256
                    denied 1 = 0
                    told 5 5 = 240
                    change 0 0 2501 = yes
                    step 0 7505 = 2
                    step 0 8000 = 3
                    told 2 5 = 16
                    denied 2 = 64
                    told 3 5 = 0
                    told 4 5 = 16
                    denied 4 = 80
                    change 0 0 3501 = yes     # by y
                    told 3 5 = 110            # 5 times 11 refused, 11 times 5 not
                    denied 3 = 5
                    """);
    }

    private static void as() {
        Sentence.of(TERMS, "7 AS FUNCTION p: if these don't GIVE the same (both REFUSED is the same).")
                .each("claim 0 7 * 0 = none", Outside.of(0, 5))
                .hold("""
                    claim 0 7 5 0 = 0
                    claim 5 7 0 0 = 1
                    claim 0 7 0 0 = 2
                    told 0 5 = 0              # both give 0
                    step 0 2501 = 1
                    told 0 5 = 240
                    denied 0 = 16
                    told 1 5 = 240
                    told 2 5 = 0              # as itself it is always
                    step 0 7505 = 2
                    step 0 8000 = 3
                    step 5 2501 = 1
                    told 0 5 = 176            # one is refused
                    denied 0 = 80
                    told 1 5 = 176
                    denied 1 = 80
                    told 2 5 = 0
                    step 5 7505 = 2
                    step 5 8000 = 3
                    told 0 5 = 0              # both are
                    told 1 5 = 0
                    change 5 1 7504 = yes
                    told 0 5 = 16
                    denied 1 = 64
                    """);
    }

    private static void held() {
        Sentence.hold(TERMS, "It is HELD (0), if no RUN DENIES it NOW.", """
            step 0 501 = 1
            claim 0 0 0 0 = 0
            keep = 1
            keep = 2
            told 0 0 = 2
            clear 0 = yes
            told 0 0 = 0              # it wasn't in the states that were kept last
            keep = 3
            step 0 2501 = 1
            step 0 3501 = 2
            step 0 7530 = 3
            step 0 8000 = 4
            claim 0 1 0 0 = 1
            claim 0 0 0 29 = 2
            told 2 0 = 0
            told 1 0 = 2              # one run is enough, the last one too
            step 1 8000 = 1
            claim 1 0 5 5 = 3
            claim 1 2 0 0 = 4
            claim 1 3 7 0 = 5
            claim 1 4 0 0 = 6
            told 3 0 = 0              # if all are refused, these are held
            told 4 0 = 0
            told 5 0 = 0
            told 6 0 = 0
            """);
    }

    private static void broken() {
        Sentence.hold(TERMS, "Else it is BROKEN (1), if it wasn't HELD in any state from that on at which it came", """
            claim 0 0 5 5 = 0
            told 0 0 = 1
            step 0 505 = 1
            told 0 0 = 0
            change 0 0 506 = yes
            told 0 0 = 1              # it was held, but in no state
            keep = 1
            keep = 2
            told 0 0 = 1
            told 0 6 = none
            change 0 0 505 = yes
            keep = 3
            change 0 0 506 = yes
            told 0 0 = 2              # in one of them is enough
            claim 0 0 6 6 = 1
            change 0 0 507 = yes
            told 1 0 = 1              # held as it came, but in no state
            """);
    }

    private static void statesThatCount() {
        Sentence.hold(TERMS, "(the states KEPT since, and that KEPT last ahead of its coming, 0 if none was);", """
            step 0 501 = 1
            claim 0 0 0 0 = 0
            told 0 0 = 2              # none was kept, so state 0 counts
            keep = 1
            claim 0 0 0 0 = 1
            told 1 0 = 1              # one was, so state 0 doesn't
            claim 0 0 1 1 = 2
            change 0 0 502 = yes
            told 2 0 = 2
            claim 0 0 1 1 = 3
            told 3 0 = 2              # state 1 counts, though it wasn't so NOW
            told 3 6 = 2
            keep = 2
            claim 0 0 1 1 = 4
            told 4 0 = 1              # state 2 was kept last, so state 1 does not count
            told 3 0 = 2
            claim 0 0 3 3 = 5
            told 5 0 = 1
            change 0 0 503 = yes
            keep = 3
            change 0 0 504 = yes
            told 5 0 = 2              # KEPT since
            told 4 0 = 1
            """);
    }

    private static void stale() {
        Sentence.hold(TERMS, "else STALE (2): its SINCE is the first state behind the last one in which it was HELD", """
            claim 0 0 0 0 = 0
            keep = 1
            keep = 2
            step 0 501 = 1
            keep = 3
            keep = 4
            told 0 0 = 2
            told 0 6 = 3
            clear 0 = yes
            told 0 6 = none           # held NOW
            keep = 5
            step 0 501 = 1
            keep = 6
            keep = 7
            told 0 6 = 6              # behind the last one, not the first
            """);
    }

    private static void now() {
        Script thirty = Sentence.of(TERMS, "(NOW counts as the state that would be KEPT next).");
        thirty.hold("claim 0 0 0 0 = 0\nstep 0 501 = 1\ntold 0 6 = 1\nclear 0 = yes\nstep 0 500 = 1");
        for (int state = 1; state <= 30; state++) {
            thirty.each("keep = *", state).hold("change 0 0 501 = yes").each("told 0 6 = *", state + 1);
            thirty.hold("change 0 0 500 = yes");
        }
        thirty.hold("""
            keep = none
            change 0 0 501 = yes
            keep = none
            told 0 0 = 2
            told 0 6 = 31             # though there is no room for it
            """);
    }

    private static void harm() {
        Sentence.hold(TERMS, "HARM is how many RUNS DENY it NOW.", """
            claim 0 0 0 29 = 0
            told 0 5 = 0
            step 0 2501 = 1
            step 0 3501 = 2
            told 0 5 = 1
            step 0 1501 = 3
            told 0 5 = 3
            keep = 1
            step 0 530 = 4
            told 0 5 = 256            # all of them
            clear 0 = yes
            told 0 5 = 0              # not as it was kept
            """);
    }
}
