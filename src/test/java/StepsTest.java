/** Promises 2, 3 and 4. */
public final class StepsTest {

    public static void main(String[] args) {
        clear();
        step();
        twelveAtMost();
        innerSteps();
        change();
        Script.end();
    }

    private static void clear() {
        Script.hold("clear", """
            clear 0 = yes             # without STEPS too
            step 0 507 = 1
            step 0 1501 = 2
            step 1 509 = 1
            clear -1 = no
            clear 6 = no
            clear most = no
            clear refused = no
            count 10 = 2
            clear 0 = yes
            count 10 = 0
            run 0 0 0 = 0
            run 1 0 0 = 9             # the others stay
            step 0 1503 = 1           # and it begins anew
            run 0 0 0 = 3
            """);
        Script.hold("clear is seen by those that call it", """
            step 2 507 = 1
            step 4 9002 = 1
            run 4 1 1 = 7
            clear 2 = yes
            run 4 1 1 = 0
            """);
    }

    private static void step() {
        Script.hold("step", """
            step 0 0 = 1
            step 0 999 = 2
            step 0 8000 = 3
            step 0 8999 = 4
            step 0 10001 = 5
            step 0 10999 = 6
            step 5 7500 = 1
            """);
        Script.hold("what can't be a step", """
            step -1 500 = none
            step 6 500 = none
            step most 500 = none
            step refused 500 = none
            step 0 -1 = none
            step 0 -500 = none
            step 0 refused = none
            step 0 10000 = none
            step 0 11000 = none
            step 0 11001 = none
            step 0 most = none
            count 10 = 0
            run 0 1 1 = 0
            """);
    }

    private static void twelveAtMost() {
        Script twelve = new Script("twelve");
        for (int k = 1; k <= 12; k++) {
            twelve.hold("step 3 1501 = " + k);
        }
        twelve.hold("""
            step 3 1501 = none
            count 13 = 12
            run 3 0 0 = 12
            change 3 11 1502 = yes
            change 3 12 1502 = no
            run 3 0 0 = 13
            clear 3 = yes
            step 3 1501 = 1
            """);
    }

    private static void innerSteps() {
        Script.hold("a step 9 names a function below", """
            step 0 9000 = none
            step 1 9000 = 1
            step 1 9001 = none
            step 1 9002 = none
            step 1 9999 = none
            step 5 9004 = 1
            step 5 9005 = none
            step 5 9006 = none
            """);
        Script.hold("two steps 9 at most", """
            step 3 9000 = 1
            step 3 501 = 2
            step 3 9002 = 3
            step 3 9001 = none
            count 13 = 3
            change 3 1 9001 = no
            change 3 0 9001 = yes     # the one that goes doesn't count
            change 3 2 9001 = yes
            change 3 0 500 = yes
            step 3 9000 = 4
            step 3 9000 = none
            change 3 1 9000 = no
            clear 3 = yes
            step 3 9000 = 1
            step 3 9000 = 2
            step 3 9000 = none
            """);
    }

    private static void change() {
        Script.hold("change", """
            change 0 0 500 = no       # there is none yet
            step 0 507 = 1
            step 0 1502 = 2
            run 0 0 0 = 9
            change 0 0 508 = yes
            run 0 0 0 = 10
            change 0 1 4503 = yes
            run 0 0 0 = 24
            change 0 1 4503 = yes
            count 10 = 2
            """);
        Script.hold("what can't be changed", """
            step 1 507 = 1
            change 1 -1 500 = no
            change 1 1 500 = no
            change 1 most 500 = no
            change 1 refused 500 = no
            change -1 0 500 = no
            change 6 0 500 = no
            change 1 0 -1 = no
            change 1 0 10000 = no
            change 1 0 11000 = no
            change 1 0 most = no
            change 1 0 refused = no
            change 1 0 9001 = no
            run 1 0 0 = 7
            count 11 = 1
            """);
    }
}
