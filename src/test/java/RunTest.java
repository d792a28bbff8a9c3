/** Promise 5, and what each STEP does. */
public final class RunTest {

    public static void main(String[] args) {
        plainSteps();
        leavingOut();
        refusing();
        innerRuns();
        rests();
        limits();
        wrongInputs();
        Script.end();
    }

    private static void plainSteps() {
        Script.hold("set, more, by x, by y, times", """
            step 0 503 = 1
            run 0 4 5 = 3
            step 0 1490 = 2
            run 0 4 5 = -7
            step 0 2502 = 3
            run 0 4 5 = 1
            step 0 3497 = 4
            run 0 4 5 = -14
            run 0 5 4 = -9
            step 0 4498 = 5
            run 0 4 5 = 28
            step 0 0 = 6
            run 0 4 5 = -500
            change 0 5 999 = yes
            run 0 4 5 = 499
            """);
        Script.hold("at most, at least", """
            step 0 2501 = 1
            step 0 5508 = 2
            run 0 7 0 = 7
            run 0 8 0 = 8
            run 0 9 0 = 8
            run 0 15 0 = 8
            step 0 6503 = 3
            run 0 2 0 = 3
            run 0 3 0 = 3
            run 0 4 0 = 4
            """);
    }

    private static void leavingOut() {
        Script.hold("below b the next step is left out", """
            step 0 2501 = 1
            step 0 7505 = 2
            step 0 1600 = 3
            step 0 1501 = 4
            run 0 4 0 = 5
            run 0 5 0 = 106
            run 0 6 0 = 107
            """);
        Script.hold("a step 7 can be left out, and one at the end leaves nothing", """
            step 0 7501 = 1
            step 0 7999 = 2
            step 0 1503 = 3
            step 0 7999 = 4
            run 0 0 0 = 3
            """);
        Script.hold("a step 8 can be left out", """
            step 0 7501 = 1
            step 0 8000 = 2
            step 0 1503 = 3
            run 0 0 0 = 3
            """);
    }

    private static void refusing() {
        Script.hold("nothing follows a refusal", """
            step 0 8999 = 1
            step 0 505 = 2
            run 0 0 0 = refused
            run 0 15 15 = refused
            """);
    }

    private static void innerRuns() {
        Script.hold("the same x and y, a register of its own", """
            step 0 1501 = 1
            step 0 2510 = 2
            step 0 3501 = 3
            step 2 599 = 1
            step 2 9000 = 2
            run 2 3 4 = 35
            step 2 4502 = 3
            run 2 3 4 = 70
            run 0 3 4 = 35
            step 5 9002 = 1
            run 5 3 4 = 70
            change 0 0 1502 = yes     # those above see a change below
            run 5 3 4 = 72
            """);
        Script.hold("refused if the inner one is", """
            step 0 2501 = 1
            step 0 7503 = 2
            step 0 8000 = 3
            step 1 9000 = 1
            step 1 507 = 2
            run 1 2 0 = 7
            run 1 3 0 = refused
            """);
    }

    private static void rests() {
        Script.hold("the rest is never below 0", """
            step 0 2499 = 1
            step 0 10007 = 2
            run 0 0 0 = 0
            run 0 1 0 = 6
            run 0 6 0 = 1
            run 0 7 0 = 0
            run 0 8 0 = 6
            change 0 1 10001 = yes
            run 0 8 0 = 0
            change 0 1 10999 = yes
            run 0 1 0 = 998
            """);
    }

    private static void limits() {
        Script.hold("a million is within, one more isn't", """
            step 0 600 = 1
            step 0 4600 = 2
            step 0 4600 = 3
            run 0 0 0 = 1000000
            step 0 2501 = 4
            run 0 0 0 = 1000000
            run 0 1 0 = refused
            step 0 1499 = 5           # what was refused comes back no more
            run 0 0 0 = 999999
            run 0 1 0 = refused
            """);
        Script.hold("likewise below 0", """
            step 0 400 = 1
            step 0 4600 = 2
            step 0 4600 = 3
            run 0 0 0 = -1000000
            step 0 3499 = 4
            run 0 0 0 = -1000000
            run 0 0 1 = refused
            """);
        Script.hold("times", """
            step 0 600 = 1
            step 0 4600 = 2
            step 0 4600 = 3
            step 0 4000 = 4
            run 0 0 0 = refused
            change 0 3 4999 = yes
            run 0 0 0 = refused
            change 0 3 4499 = yes
            run 0 0 0 = -1000000
            """);
    }

    private static void wrongInputs() {
        Script.hold("no such run", """
            step 0 501 = 1
            run 0 15 15 = 1
            run -1 0 0 = refused
            run 6 0 0 = refused
            run most 0 0 = refused
            run refused 0 0 = refused
            run 0 -1 0 = refused
            run 0 16 0 = refused
            run 0 0 -1 = refused
            run 0 0 16 = refused
            run 0 1 -1 = refused
            run 0 -1 16 = refused
            run 0 most 0 = refused
            run 0 0 most = refused
            run 0 refused refused = refused
            """);
    }
}
