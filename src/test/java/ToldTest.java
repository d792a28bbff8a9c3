/** Promises 9 and 10. */
public final class ToldTest {

    public static void main(String[] args) {
        whatIsTold();
        standings();
        comingLater();
        sinceAtTheEnd();
        wrongInputs();
        Script.end();
    }

    private static void whatIsTold() {
        Script.hold("all that is told", """
            step 4 2501 = 1
            claim 4 0 3 9 = 0
            told 0 0 = 1
            told 0 1 = 4
            told 0 2 = 0
            told 0 3 = 3
            told 0 4 = 9
            told 0 5 = 144
            told 0 6 = none
            told 0 7 = 0
            mark 0 = yes
            told 0 7 = 1
            told 0 0 = 1              # a MARK changes nothing of that
            told 0 5 = 144
            denied 0 = 0
            """);
    }

    private static void standings() {
        Script.hold("held, broken, stale and since", """
            claim 0 0 0 0 = 0         # held in state 0
            claim 0 0 5 5 = 1
            told 0 0 = 0
            told 0 6 = none
            told 1 0 = 1
            told 1 6 = none
            step 0 505 = 1
            told 0 0 = 2
            told 0 6 = 1
            told 1 0 = 0
            told 1 6 = none
            change 0 0 506 = yes
            told 1 0 = 1              # it was held, but in no state that was kept
            change 0 0 505 = yes
            keep = 1
            keep = 2
            told 0 6 = 1
            change 0 0 506 = yes
            told 1 0 = 2
            told 1 6 = 3
            keep = 3
            keep = 4
            told 1 6 = 3              # it stays there as states go on
            change 0 0 505 = yes
            keep = 5
            told 1 6 = none
            change 0 0 507 = yes
            told 1 6 = 6              # behind the last one
            told 0 6 = 1
            """);
        Script.hold("as function p, by what both were", """
            claim 0 7 1 0 = 0
            step 0 501 = 1
            keep = 1
            step 1 501 = 1
            keep = 2
            step 1 1501 = 2
            told 0 0 = 2
            told 0 6 = 3
            """);
    }

    private static void comingLater() {
        Script.hold("states ahead of the last one kept don't count", """
            step 0 501 = 1
            keep = 1
            claim 0 0 0 0 = 0         # held in state 0, but it came at 1
            told 0 0 = 1
            told 0 6 = none
            claim 0 0 1 1 = 1
            told 1 0 = 0
            change 0 0 502 = yes
            claim 0 0 1 1 = 2         # not held as it comes, but in state 1
            told 1 0 = 2
            told 1 6 = 2
            told 2 0 = 2
            told 2 6 = 2
            keep = 2
            claim 0 0 1 1 = 3
            told 3 0 = 1
            told 2 6 = 2
            """);
    }

    private static void sinceAtTheEnd() {
        Script script = new Script("NOW behind thirty states");
        for (int state = 1; state <= 30; state++) {
            script.hold("keep = " + state);
        }
        script.hold("""
            claim 0 0 0 0 = 0
            step 0 501 = 1
            told 0 0 = 2
            told 0 6 = 31
            """);
    }

    private static void wrongInputs() {
        Script.hold("no such claim or what", """
            told 0 0 = refused
            denied 0 = none
            claim 0 5 0 1 = 0
            told 0 -1 = refused
            told 0 8 = refused
            told 0 most = refused
            told 0 refused = refused
            told 1 0 = refused
            told -1 0 = refused
            told most 0 = refused
            told refused 0 = refused
            denied 0 = 0
            denied 1 = none
            denied -1 = none
            denied most = none
            denied refused = none
            """);
    }
}
