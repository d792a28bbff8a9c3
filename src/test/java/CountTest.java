/** Promises 15 and 16. */
public final class CountTest {

    public static void main(String[] args) {
        missing();
        missingBits();
        count();
        Script.end();
    }

    private static void missing() {
        Script.hold("steps without a claim", """
            missing 0 = 0
            step 0 501 = 1
            missing 0 = 4
            missing 1 = 0
            claim 1 7 0 0 = 0         # beside 1, not 0
            missing 0 = 4
            claim 0 4 0 0 = 1
            missing 0 = 0
            missing -1 = none
            missing 6 = none
            missing most = none
            missing refused = none
            """);
    }

    private static void missingBits() {
        Script.hold("refusals and what is below 0", """
            step 2 2501 = 1
            step 2 7515 = 2
            step 2 8000 = 3
            missing 2 = 5
            claim 2 0 0 3 = 0
            missing 2 = 1
            claim 2 1 0 0 = 1
            missing 2 = 0
            step 2 1499 = 4
            missing 2 = 0
            step 3 9002 = 1
            missing 3 = 7
            claim 3 6 2 0 = 2
            missing 3 = 2
            mark 2 = yes
            missing 3 = 2             # a claim with a MARK still tells
            """);
        Script.hold("one run is enough", """
            step 0 2501 = 1
            step 0 3501 = 2
            step 0 7530 = 3
            step 0 8000 = 4
            count 20 = 1
            missing 0 = 5
            step 1 2499 = 1
            step 1 3499 = 2
            step 1 1530 = 3
            missing 1 = 4
            change 1 2 1529 = yes
            missing 1 = 6
            """);
        Script.hold("each kind counts for its own bit", """
            step 1 499 = 1
            missing 1 = 6
            claim 1 1 0 0 = 0
            claim 1 6 0 0 = 1
            missing 1 = 2
            claim 1 0 0 5 = 2
            missing 1 = 0
            step 4 8000 = 1
            missing 4 = 5             # nothing is given, nothing is below 0
            claim 4 0 0 5 = 3
            claim 4 5 0 5 = 4
            claim 4 2 0 0 = 5
            missing 4 = 1
            claim 4 6 0 0 = 6
            missing 4 = 0
            """);
    }

    private static void count() {
        Script.hold("count", """
            step 0 2501 = 1
            step 0 7504 = 2
            step 0 8000 = 3
            step 5 9000 = 1
            claim 0 0 0 3 = 0         # held
            claim 0 1 0 0 = 1         # stale
            claim 0 6 7 0 = 2         # broken
            claim 5 6 8 0 = 3         # broken
            claim 1 1 0 0 = 4         # held
            claim 1 2 0 0 = 5         # held
            keep = 1
            mark 1 = yes
            mark 4 = yes
            count 0 = 6
            count 1 = 1
            count 2 = 3
            count 3 = 2
            count 4 = 1
            count 5 = 2
            count 10 = 3
            count 11 = 0
            count 15 = 1
            count 20 = 192
            count 21 = 0
            count 25 = 192
            count 6 = none
            count 9 = none
            count 16 = none
            count 19 = none
            count 26 = none
            count -1 = none
            count most = none
            count refused = none
            """);
    }
}
