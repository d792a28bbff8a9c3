/** Promises 6 and 7. */
public final class StatesTest {

    public static void main(String[] args) {
        states();
        thirtyAtMost();
        wrongInputs();
        Script.end();
    }

    private static void states() {
        Script.hold("a kept state stays", """
            step 0 2501 = 1
            step 3 9000 = 1
            keep = 1
            was 1 0 3 4 = 3
            was 1 3 3 4 = 3
            was 0 0 3 4 = 0
            change 0 0 3501 = yes
            was 1 0 3 4 = 3
            was 1 3 3 4 = 3           # what it called then is kept with it
            keep = 2
            was 2 0 3 4 = 4
            was 2 3 3 4 = 4
            clear 0 = yes
            was 2 3 3 4 = 4
            was 1 3 3 4 = 3
            run 3 3 4 = 0
            step 0 8000 = 1
            keep = 3
            was 3 0 0 0 = refused
            was 3 3 0 0 = refused
            count 1 = 3
            """);
        Script.hold("all functions are kept, those changed but not run too", """
            step 5 511 = 1
            keep = 1
            clear 5 = yes
            was 1 5 15 15 = 11
            was 0 5 15 15 = 0
            """);
    }

    private static void thirtyAtMost() {
        Script thirty = new Script("thirty");
        for (int state = 1; state <= 30; state++) {
            thirty.hold("clear 0 = yes\nstep 0 " + (500 + state) + " = 1\nkeep = " + state);
        }
        thirty.hold("""
            clear 0 = yes
            keep = none
            keep = none
            count 1 = 30
            was 31 0 0 0 = refused
            was 0 0 0 0 = 0
            """);
        for (int state = 1; state <= 30; state++) {
            thirty.hold("was " + state + " 0 7 7 = " + state);
        }
    }

    private static void wrongInputs() {
        Script.hold("no such state or run", """
            step 0 501 = 1
            was 1 0 0 0 = refused     # NOW isn't kept
            keep = 1
            was 1 0 0 0 = 1
            was 2 0 0 0 = refused
            was -1 0 0 0 = refused
            was most 0 0 0 = refused
            was refused 0 0 0 = refused
            was 1 -1 0 0 = refused
            was 1 6 0 0 = refused
            was 1 0 -1 0 = refused
            was 1 0 16 0 = refused
            was 1 0 0 -1 = refused
            was 1 0 0 16 = refused
            was 1 0 1 -1 = refused
            """);
    }
}
