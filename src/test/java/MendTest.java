/** Promises 11 and 12. */
public final class MendTest {

    public static void main(String[] args) {
        between();
        multiple();
        example();
        refuses();
        kindsWithoutMend();
        mendingLooksAtStatesAgain();
        wrongInputs();
        Script.end();
    }

    private static void between() {
        Script.hold("between", """
            step 0 2503 = 1
            step 0 1498 = 2
            claim 0 0 -2 43 = 0
            mend 0 0 = refused        # it is held
            mend 0 1 = refused
            mended 0 = no
            claim 0 0 0 5 = 1
            mend 1 0 = -2
            mend 1 1 = 43
            mend 1 2 = refused
            mended 1 = yes
            told 1 3 = -2
            told 1 4 = 43
            told 1 0 = 0
            mended 1 = no
            step 0 8000 = 3
            mend 1 0 = refused        # all are refused, so it is held
            """);
        Script.hold("between, of those that give", """
            step 0 2501 = 1
            step 0 7503 = 2
            step 0 8000 = 3
            step 0 1499 = 4
            claim 0 0 0 0 = 0
            mend 0 0 = -1
            mend 0 1 = 1
            """);
        Script.hold("between, where the first or the last run stands alone", """
            step 0 2501 = 1
            step 0 3501 = 2
            claim 0 0 5 6 = 0
            mend 0 0 = 0
            mend 0 1 = 30
            step 0 4499 = 3
            mend 0 0 = -30
            mend 0 1 = 0
            """);
    }

    private static void multiple() {
        Script.hold("multiple", """
            step 0 2494 = 1
            step 0 3509 = 2
            claim 0 3 2 77 = 0
            mend 0 0 = 3
            mend 0 1 = refused
            mended 0 = yes
            told 0 3 = 3
            told 0 4 = 77
            told 0 0 = 0
            clear 0 = yes
            step 0 999 = 1            # 499 * 4, of which 998 is the greatest part up to 1000
            step 0 4504 = 2
            mend 0 0 = 998
            clear 0 = yes
            step 0 2501 = 1
            mend 0 0 = 1
            change 0 0 600 = yes
            step 0 4600 = 2
            step 0 4600 = 3
            mend 0 0 = 1000
            """);
        Script.hold("multiple, where the first run stands alone", """
            step 0 2501 = 1
            step 0 3501 = 2
            step 0 5501 = 3
            step 0 4506 = 4
            step 0 1506 = 5           # 6, then 12 always
            claim 0 3 5 0 = 0
            mend 0 0 = 6
            change 0 3 4502 = yes
            change 0 4 1502 = yes
            mend 0 0 = 2
            """);
        Script.hold("multiple, of a prime above 1000", """
            step 0 999 = 1
            step 0 1999 = 2
            step 0 1511 = 3           # 1009
            claim 0 3 1000 0 = 0
            mend 0 0 = 1
            """);
    }

    private static void example() {
        Script.hold("example", """
            step 0 2510 = 1
            step 0 3501 = 2
            claim 0 5 52 7 = 0
            mend 0 0 = 34
            mend 0 1 = refused
            mended 0 = yes
            told 0 3 = 52
            told 0 4 = 34
            told 0 0 = 0
            step 0 8000 = 3
            told 0 0 = 1
            mend 0 0 = refused
            mended 0 = no
            told 0 4 = 34
            """);
    }

    private static void refuses() {
        Script.hold("refuses", """
            step 0 2501 = 1
            step 0 7511 = 2
            step 0 8000 = 3
            claim 0 6 4 9 = 0
            mend 0 0 = 11
            mend 0 1 = refused
            mended 0 = yes
            told 0 3 = 11
            told 0 4 = 9
            told 0 0 = 0
            clear 0 = yes
            mend 0 0 = 16
            step 0 8000 = 1
            mend 0 0 = 0
            """);
        Script.hold("refuses, by no p", """
            step 0 3501 = 1
            step 0 7515 = 2
            step 0 8000 = 3
            claim 0 6 4 9 = 0
            mend 0 0 = refused        # by y
            mended 0 = no
            told 0 3 = 4
            change 0 0 2499 = yes
            change 0 1 7496 = yes
            mend 0 0 = refused        # up to an x
            """);
    }

    private static void kindsWithoutMend() {
        Script.hold("never refused, rising, like, as", """
            step 0 2499 = 1
            step 0 7491 = 2
            step 0 8000 = 3
            claim 0 1 0 0 = 0
            claim 0 2 0 0 = 1
            claim 0 4 0 0 = 2
            claim 0 7 1 0 = 3
            count 2 = 0
            mend 0 0 = refused
            mend 1 0 = refused
            mend 2 0 = refused
            mend 3 0 = refused
            mend 0 1 = refused
            mend 1 1 = refused
            mend 2 1 = refused
            mend 3 1 = refused
            mended 0 = no
            mended 1 = no
            mended 2 = no
            mended 3 = no
            told 3 3 = 1
            """);
    }

    private static void mendingLooksAtStatesAgain() {
        Script.hold("the claim as it reads now is held against the states", """
            claim 0 5 0 0 = 0         # held in state 0
            step 0 501 = 1
            keep = 1
            change 0 0 502 = yes
            told 0 6 = 1
            mended 0 = yes            # 2, which is in no state yet
            change 0 0 503 = yes
            told 0 0 = 1
            told 0 6 = none
            change 0 0 501 = yes
            mended 0 = yes            # 1, which it gave in state 1
            change 0 0 503 = yes
            told 0 0 = 2
            told 0 6 = 2
            mark 0 = yes
            mended 0 = yes
            told 0 7 = 1
            """);
    }

    private static void wrongInputs() {
        Script.hold("no such claim or what", """
            mend 0 0 = refused
            mended 0 = no
            claim 0 0 5 6 = 0
            mend 0 -1 = refused
            mend 0 2 = refused
            mend 0 most = refused
            mend 0 refused = refused
            mend 1 0 = refused
            mend -1 0 = refused
            mend most 0 = refused
            mend refused 0 = refused
            mended 1 = no
            mended -1 = no
            mended most = no
            mended refused = no
            mend 0 0 = 0
            mend 0 1 = 0
            """);
    }
}
