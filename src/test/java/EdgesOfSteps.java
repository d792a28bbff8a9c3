import java.util.stream.IntStream;

/** The document's Terms, part 1: FUNCTIONS, STEPS, RUNS and states. */
final class EdgesOfSteps {

    private static final String TERMS = Sentence.TERMS;
    private static final int[] FUNCTIONS = IntStream.range(0, 6).toArray();
    private static final int[] SIDE = IntStream.range(0, 16).toArray();

    private EdgesOfSteps() {
    }

    static void hold() {
        functions();
        twelveSteps();
        xAndY();
        register();
        numbersOfSteps();
        setAndMore();
        byXAndY();
        times();
        atMost();
        atLeast();
        leavingOut();
        leavingOutAtTheEnds();
        refusing();
        innerSteps();
        innerRefusals();
        innerNumbers();
        rests();
        limitAbove();
        limitBelow();
        twoInnerSteps();
        world();
        states();
    }

    private static void functions() {
        int[] none = Outside.of(0, 5);
        Sentence.of(TERMS, "FUNCTIONS are 0 .. 5:")
                .each("step * 507 = 1", FUNCTIONS)
                .each("step * 507 = none", none)
                .each("change * 0 508 = yes", FUNCTIONS)
                .each("change * 0 509 = no", none)
                .each("run * 0 0 = 8", FUNCTIONS)
                .each("run * 0 0 = refused", none)
                .each("was 0 * 0 0 = 0", FUNCTIONS)
                .each("was 0 * 0 0 = refused", none)
                .each("missing * = 4", FUNCTIONS)
                .each("missing * = none", none)
                .each("claim * 1 0 0 = none", none)
                .each("claim 0 7 * 0 = none", none)
                .each("clear * = no", none)
                .each("clear * = yes", FUNCTIONS)
                .hold("claim 0 7 5 0 = 0\nclaim 5 7 0 0 = 1\nclaim 6 7 0 0 = none");
    }

    private static void twelveSteps() {
        Script full = Sentence.of(TERMS, "rows of at most 12 STEPS");
        for (int function : FUNCTIONS) {
            for (int k = 1; k <= 12; k++) {
                full.hold("step " + function + " 1501 = " + k);
            }
        }
        full.each("step * 1501 = none", FUNCTIONS).each("step * 500 = none", FUNCTIONS)
                .each("count 1* = 12", FUNCTIONS).each("run * 0 0 = 12", FUNCTIONS);
        Sentence.of(TERMS, "(none at first).").each("count 1* = 0", FUNCTIONS)
                .each("change * 0 501 = no", FUNCTIONS).each("run * 0 0 = 0", FUNCTIONS)
                .each("step * 507 = 1", FUNCTIONS);
    }

    private static void xAndY() {
        Script all = Sentence.of(TERMS, "A RUN of one has x and y, 0 .. 15 each,");
        all.hold("step 5 2516 = 1\nstep 5 3501 = 2");
        for (int run = 0; run < 256; run++) {
            all.hold("run 5 " + run / 16 + " " + run % 16 + " = " + run);
        }
        int[] none = Outside.of(0, 15);
        all.each("run 5 * 0 = refused", none).each("run 5 0 * = refused", none)
                .each("was 0 5 * 0 = refused", none).each("was 0 5 0 * = refused", none)
                .hold("""
                    run 5 0 15 = 15
                    run 5 0 16 = refused      # it isn't that with 1 and 0
                    run 5 1 -1 = refused      # nor that with 0 and 15
                    run 5 -1 16 = refused
                    run 5 15 -240 = refused
                    run 5 16 -16 = refused
                    run 4 15 16 = refused     # nor one of the next function
                    was 0 4 16 0 = refused
                    """);
    }

    private static void register() {
        Sentence.hold(TERMS, "and a REGISTER, 0 at first;", """
            step 0 1501 = 1
            run 0 0 0 = 1
            run 0 0 0 = 1             # it doesn't go on from the last run
            run 0 15 15 = 1
            step 1 507 = 1
            step 1 9000 = 2
            run 1 0 0 = 1             # nor from the function outside
            step 2 7500 = 1
            step 2 1503 = 2
            run 2 0 0 = 3             # 0 isn't below 0
            step 3 7501 = 1
            step 3 1503 = 2
            run 3 0 0 = 0             # but below 1
            step 4 4999 = 1
            run 4 15 15 = 0
            """);
        Sentence.hold(TERMS, "it goes by its STEPS, and GIVES the REGISTER, or is REFUSED.", """
            run 0 9 9 = 0             # by none of them
            step 0 507 = 1
            step 0 4502 = 2
            run 0 9 9 = 14
            step 1 4502 = 1
            step 1 507 = 2
            run 1 9 9 = 7             # the first one first
            step 1 8000 = 3
            run 1 9 9 = refused
            """);
    }

    private static void numbersOfSteps() {
        int[] none = {-1, -2, -499, -500, -501, -999, -1000, -1001, -8000, -10001, -11000, 11000, 11001, 11500, 11999,
            12000, 20000, 66036, 1000000, 16777716, 268435956, Integer.MIN_VALUE, Integer.MIN_VALUE + 500,
            Integer.MAX_VALUE, Integer.MAX_VALUE - 500};
        Sentence.of(TERMS, "A STEP is OP * 1000 + a (a 0 .. 999; b stands for a - 500):")
                .each("step 0 * = none", none)
                .hold("""
                    count 10 = 0
                    step 0 0 = 1
                    run 0 0 0 = -500
                    """)
                .each("change 0 0 * = no", none)
                .hold("""
                    run 0 0 0 = -500
                    change 0 0 500 = yes
                    run 0 0 0 = 0
                    change 0 0 999 = yes
                    run 0 0 0 = 499
                    change 0 0 1000 = yes     # OP 1, and b is -500
                    run 0 0 0 = -500
                    change 0 0 1999 = yes
                    run 0 0 0 = 499
                    change 0 0 10999 = yes    # the last one that can be
                    run 0 0 0 = 0
                    """);
    }

    private static void setAndMore() {
        Sentence.hold(TERMS, "0 the REGISTER is b.", """
            step 0 2501 = 1
            step 0 0 = 2
            run 0 0 0 = -500
            run 0 15 0 = -500         # whatever it was
            change 0 1 999 = yes
            run 0 15 0 = 499
            change 0 1 500 = yes
            run 0 15 0 = 0
            """);
        Sentence.hold(TERMS, "1 it is b more.", """
            step 0 2501 = 1
            step 0 1000 = 2
            run 0 0 0 = -500
            run 0 15 0 = -485
            change 0 1 1999 = yes
            run 0 0 0 = 499
            run 0 15 0 = 514
            change 0 1 1500 = yes
            run 0 15 0 = 15
            """);
    }

    private static void byXAndY() {
        Sentence.hold(TERMS, "2 it is b times x more.", """
            step 0 501 = 1
            step 0 2000 = 2
            run 0 0 15 = 1            # 0 times
            run 0 1 15 = -499
            run 0 15 0 = -7499
            change 0 1 2999 = yes
            run 0 0 15 = 1
            run 0 15 0 = 7486
            change 0 1 2500 = yes
            run 0 15 15 = 1
            """);
        Sentence.hold(TERMS, "3 it is b times y more.", """
            step 0 501 = 1
            step 0 3000 = 2
            run 0 15 0 = 1            # 0 times
            run 0 15 1 = -499
            run 0 0 15 = -7499
            change 0 1 3999 = yes
            run 0 15 0 = 1
            run 0 0 15 = 7486
            change 0 1 3500 = yes
            run 0 15 15 = 1
            """);
    }

    private static void times() {
        Sentence.hold(TERMS, "4 it is b times as much.", """
            step 0 510 = 1
            step 0 4000 = 2
            run 0 1 1 = -5000
            change 0 1 4999 = yes
            run 0 1 1 = 4990
            change 0 1 4500 = yes
            run 0 1 1 = 0
            change 0 1 4501 = yes
            run 0 1 1 = 10
            change 0 1 4499 = yes
            run 0 1 1 = -10
            change 0 0 490 = yes
            run 0 1 1 = 10
            """);
    }

    private static void atMost() {
        Sentence.hold(TERMS, "5 it is b, if it was more.", """
            step 0 2501 = 1
            step 0 5508 = 2
            run 0 0 0 = 0
            run 0 7 0 = 7
            run 0 8 0 = 8
            run 0 9 0 = 8
            run 0 15 0 = 8
            change 0 1 5000 = yes
            run 0 0 0 = -500
            change 0 1 5999 = yes
            run 0 15 0 = 15
            change 0 0 2499 = yes
            change 0 1 5497 = yes
            run 0 0 0 = -3
            run 0 2 0 = -3
            run 0 3 0 = -3
            run 0 4 0 = -4
            """);
    }

    private static void atLeast() {
        Sentence.hold(TERMS, "6 it is b, if it was less.", """
            step 0 2501 = 1
            step 0 6508 = 2
            run 0 0 0 = 8
            run 0 7 0 = 8
            run 0 8 0 = 8
            run 0 9 0 = 9
            run 0 15 0 = 15
            change 0 1 6999 = yes
            run 0 0 0 = 499
            change 0 1 6000 = yes
            run 0 15 0 = 15
            change 0 0 2499 = yes
            change 0 1 6497 = yes
            run 0 0 0 = 0
            run 0 2 0 = -2
            run 0 3 0 = -3
            run 0 4 0 = -3
            """);
    }

    private static void leavingOut() {
        Sentence.hold(TERMS, "7 if it is below b, the next STEP is left out.", """
            step 0 2501 = 1
            step 0 7508 = 2
            step 0 1600 = 3
            step 0 1501 = 4
            run 0 0 0 = 1             # the next one, and no more
            run 0 7 0 = 8
            run 0 8 0 = 109
            run 0 15 0 = 116
            step 1 7501 = 1
            step 1 7999 = 2           # left out, so that it leaves out nothing
            step 1 1503 = 3
            step 1 7999 = 4           # the last one, with none next
            run 1 0 0 = 3
            step 2 8000 = 1
            step 3 7501 = 1
            step 3 9002 = 2           # left out, so that it isn't refused
            step 3 7501 = 3
            step 3 8000 = 4
            run 3 0 0 = 0
            run 4 0 0 = 0             # nothing is left out of another function
            step 4 1501 = 1
            run 4 0 0 = 1
            """);
    }

    private static void leavingOutAtTheEnds() {
        new Script("leaving out, by the least b and the greatest").hold("""
            step 0 0 = 1
            step 0 7000 = 2
            step 0 1600 = 3
            run 0 0 0 = -400          # -500 isn't below -500
            step 1 0 = 1
            step 1 1499 = 2
            step 1 7000 = 3
            step 1 1600 = 4
            run 1 0 0 = -501          # -501 is
            step 2 999 = 1
            step 2 7999 = 2
            step 2 1600 = 3
            run 2 0 0 = 599           # 499 isn't below 499
            change 2 0 998 = yes
            run 2 0 0 = 498           # 498 is
            """);
    }

    private static void refusing() {
        Sentence.hold(TERMS, "8 REFUSED.", """
            step 0 8000 = 1           # whatever a is
            run 0 0 0 = refused
            run 0 15 15 = refused
            change 0 0 8500 = yes
            run 0 0 0 = refused
            change 0 0 8999 = yes
            run 0 0 0 = refused
            step 0 507 = 2            # nothing comes behind it
            run 0 0 0 = refused
            change 0 0 501 = yes
            change 0 1 8000 = yes     # and what was ahead of it is gone
            run 0 0 0 = refused
            """);
    }

    private static void innerSteps() {
        Script deep = Sentence.of(TERMS, "9 it is what FUNCTION a GIVES with the same x and y;");
        deep.hold("step 0 2516 = 1\nstep 0 3501 = 2\nstep 1 599 = 1\nstep 1 9000 = 2");
        deep.hold("step 2 9001 = 1\nstep 3 9002 = 1\nstep 4 9003 = 1\nstep 5 9004 = 1");
        deep.each("run * 0 0 = 0", FUNCTIONS).each("run * 3 4 = 52", FUNCTIONS)
                .each("run * 4 3 = 67", FUNCTIONS).each("run * 15 15 = 255", FUNCTIONS);
        deep.hold("""
            step 5 1501 = 2
            run 5 15 15 = 256
            step 5 9003 = 3           # what the register was is gone
            run 5 15 15 = 255
            clear 0 = yes
            run 5 15 15 = 0           # one without STEPS gives 0
            """);
    }

    private static void innerRefusals() {
        Script deep = Sentence.of(TERMS, "REFUSED, if that is");
        deep.hold("step 0 2501 = 1\nstep 0 7503 = 2\nstep 0 8000 = 3\nstep 1 9000 = 1\nstep 1 507 = 2");
        deep.hold("step 2 9001 = 1\nstep 3 9002 = 1\nstep 4 9003 = 1\nstep 5 9004 = 1");
        deep.each("run * 2 0 = 7", 1, 2, 3, 4, 5).each("run * 3 0 = refused", FUNCTIONS);
        deep.hold("""
            clear 0 = yes
            step 0 600 = 1
            step 0 4600 = 2
            step 0 4600 = 3
            step 0 2501 = 4
            run 5 0 0 = 7
            run 5 1 0 = refused       # by the limit too
            """);
    }

    private static void innerNumbers() {
        Script below = Sentence.of(TERMS, "(a must be less than this FUNCTION's number).");
        below.hold("step 0 9000 = none\nstep 0 9001 = none\nstep 0 9999 = none\nstep 0 500 = 1\nchange 0 0 9000 = no");
        for (int function = 1; function < 6; function++) {
            String step = "step " + function;
            String change = "change " + function + " 0 ";
            below.each(step + " * = none", 9000 + function, 9000 + function + 1, 9999);
            below.each(step + " * = 1", 9000 + function - 1);
            below.each(change + "* = no", 9000 + function, 9000 + function + 1, 9999);
            below.each(change + "* = yes", 9000 + function - 1, 9000);
        }
        below.each("count 1* = 1", FUNCTIONS);
    }

    private static void rests() {
        Sentence.hold(TERMS, "10 it is its rest by a (a 1 .. 999; the rest is 0 .. a - 1).", """
            step 0 10000 = none
            step 0 2499 = 1
            change 0 0 10000 = no
            step 0 10007 = 2
            run 0 0 0 = 0
            run 0 1 0 = 6             # of -1
            run 0 6 0 = 1
            run 0 7 0 = 0             # of -7
            run 0 8 0 = 6
            change 0 1 10001 = yes
            run 0 15 0 = 0
            change 0 1 10999 = yes
            run 0 1 0 = 998
            change 0 0 2501 = yes
            change 0 1 10007 = yes
            run 0 6 0 = 6
            run 0 7 0 = 0
            run 0 8 0 = 1
            step 1 400 = 1
            step 1 4600 = 2
            step 1 4600 = 3
            step 1 10999 = 4          # of -1000000
            run 1 0 0 = 998
            change 1 0 600 = yes
            run 1 0 0 = 1
            step 2 999 = 1
            step 2 1999 = 2
            step 2 10999 = 3          # of 998
            run 2 0 0 = 998
            change 2 1 10500 = yes
            change 2 2 10499 = yes    # of 499
            run 2 0 0 = 0
            """);
    }

    private static void limitAbove() {
        Script above = Sentence.of(TERMS,
                "If the REGISTER would be above 1000000 or below -1000000, it is REFUSED.");
        above.hold("step 0 600 = 1\nstep 0 4600 = 2\nstep 0 4600 = 3\nrun 0 0 0 = 1000000\nstep 0 1500 = 4");
        above.hold("run 0 0 0 = 1000000\nchange 0 3 1501 = yes\nrun 0 0 0 = refused");
        above.hold("""
            step 0 1499 = 5           # what was refused comes back no more
            run 0 0 0 = refused
            change 0 4 500 = yes
            run 0 0 0 = refused
            change 0 3 2501 = yes
            change 0 4 1500 = yes
            run 0 0 15 = 1000000
            run 0 1 0 = refused
            change 0 3 3501 = yes
            run 0 15 0 = 1000000
            run 0 0 1 = refused
            change 0 3 4501 = yes
            run 0 0 0 = 1000000
            change 0 3 4502 = yes
            run 0 0 0 = refused
            change 0 3 4499 = yes
            run 0 0 0 = -1000000
            change 0 3 4999 = yes
            run 0 0 0 = refused
            step 1 999 = 1
            step 1 4519 = 2
            step 1 1920 = 3           # 9901
            step 1 4601 = 4           # 101 times is 1000001
            run 1 0 0 = refused
            change 1 3 4600 = yes
            run 1 0 0 = 990100
            """);
        Script wrap = new Script("a register doesn't wrap around").hold("step 0 501 = 1");
        for (int k = 2; k <= 9; k++) {
            wrap.hold("step 0 4756 = " + k + "\nrun 0 0 0 = " + (k == 2 ? "256" : k == 3 ? "65536" : "refused"));
        }
    }

    private static void limitBelow() {
        new Script("the limit below 0").hold("""
            step 0 400 = 1
            step 0 4600 = 2
            step 0 4600 = 3
            run 0 0 0 = -1000000
            step 0 1500 = 4
            run 0 0 0 = -1000000
            change 0 3 1499 = yes
            run 0 0 0 = refused
            step 0 1501 = 5
            run 0 0 0 = refused
            change 0 4 1500 = yes
            change 0 3 2499 = yes
            run 0 0 15 = -1000000
            run 0 1 0 = refused
            change 0 3 3499 = yes
            run 0 15 0 = -1000000
            run 0 0 1 = refused
            change 0 3 4502 = yes
            run 0 0 0 = refused
            change 0 3 4499 = yes
            run 0 0 0 = 1000000
            step 1 999 = 1
            step 1 4519 = 2
            step 1 1920 = 3           # 9901
            step 1 4399 = 4           # -101 times is -1000001
            run 1 0 0 = refused
            change 1 3 4400 = yes
            run 1 0 0 = -990100
            """);
    }

    private static void twoInnerSteps() {
        Sentence.hold(TERMS, "A FUNCTION has two STEPS 9 at most.", """
            step 3 9000 = 1
            step 3 501 = 2
            step 3 9002 = 3
            step 3 9001 = none
            change 3 1 9001 = no
            change 3 0 9001 = yes     # the one that goes doesn't count
            change 3 2 9001 = yes
            step 3 9000 = none
            change 3 0 500 = yes
            change 3 1 9000 = yes     # one went, so one may come
            step 3 9000 = none
            change 3 0 9000 = no
            step 4 9003 = 1           # each FUNCTION has two of its own
            step 4 9003 = 2
            step 4 9003 = none
            step 4 8000 = 3           # those of another OP may come still
            step 4 10001 = 4
            clear 3 = yes
            step 3 9000 = 1
            step 3 9000 = 2
            step 3 9000 = none
            """);
    }

    private static void world() {
        Sentence.hold(TERMS, "The WORLD are all 256 RUNS, by x, of one x by y.", """
            step 0 2501 = 1
            step 0 3501 = 2
            claim 0 0 0 4 = 0
            denied 0 = 5              # that with 0 and 5 is ahead of that with 5 and 0
            claim 0 0 0 29 = 1
            denied 1 = 255            # the last one
            told 1 5 = 1
            claim 0 0 1 30 = 2
            denied 2 = 0              # the first one
            told 2 5 = 1
            claim 0 0 31 31 = 3
            told 3 5 = 256
            step 1 8000 = 1
            count 21 = 256
            """);
    }

    private static void states() {
        Script zero = Sentence.of(TERMS, "STATES: state 0 is that of all FUNCTIONS as they are at first;");
        zero.each("step * 507 = 1", FUNCTIONS).each("was 0 * 3 4 = 0", FUNCTIONS);
        zero.hold("keep = 1").each("was 0 * 0 0 = 0", FUNCTIONS).each("was 0 0 * 15 = 0", SIDE);

        Script thirty = Sentence.of(TERMS, "KEPT states have numbers from 1 on, as they come (at most 30):");
        thirty.hold("step 0 500 = 1");
        for (int state = 1; state <= 30; state++) {
            thirty.each("change 0 0 * = yes", 500 + state).each("keep = *", state);
        }
        thirty.hold("change 0 0 600 = yes\nkeep = none\nkeep = none\ncount 1 = 30\nwas 31 0 0 0 = refused");
        for (int state = 0; state <= 30; state++) {
            thirty.each("was " + state + " 0 0 0 = *", state);
        }

        Script then = Sentence.of(TERMS, "all FUNCTIONS as they are then.");
        then.hold("step 0 507 = 1").each("step * 9000 = 1", 1, 2, 3, 4, 5).hold("keep = 1");
        then.hold("change 0 0 508 = yes\nclear 5 = yes").each("was 1 * 15 15 = 7", FUNCTIONS);
        then.hold("keep = 2").each("was 1 * 0 0 = 7", FUNCTIONS).each("was 2 * 0 0 = 8", 0, 1, 2, 3, 4);
        then.hold("was 2 5 0 0 = 0\nclear 0 = yes\nwas 2 4 0 0 = 8");

        Sentence.hold(TERMS, "NOW is what they are now.", """
            step 0 507 = 1
            claim 0 0 7 7 = 0
            keep = 1
            told 0 0 = 0
            change 0 0 508 = yes
            run 0 0 0 = 8             # not as it was kept
            told 0 0 = 2
            was 2 0 0 0 = refused     # it isn't kept yet
            change 0 0 507 = yes
            told 0 0 = 0
            """);
    }
}
