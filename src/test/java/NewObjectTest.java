/** Promise 1. */
public final class NewObjectTest {

    public static void main(String[] args) {
        everyRunGivesNothing();
        Script.hold("nothing stands yet", """
            count 0 = 0
            count 1 = 0
            count 2 = 0
            count 3 = 0
            count 4 = 0
            count 5 = 0
            count 10 = 0
            count 15 = 0
            count 20 = 0
            count 25 = 0
            told 0 0 = refused
            denied 0 = none
            mend 0 0 = refused
            mended 0 = no
            mark 0 = no
            listed 0 = none
            missing 0 = 0
            missing 5 = 0
            was 0 0 0 0 = 0
            was 1 0 0 0 = refused
            """);
        objectsStandAlone();
        Script.due("NONE", WordsBeside.NONE, -1);
        Script.end();
    }

    private static void everyRunGivesNothing() {
        for (int function = 0; function < 6; function++) {
            WordsBeside fresh = new WordsBeside();
            for (int run = 0; run < 256; run++) {
                Script.due("a new run", fresh.run(function, run / 16, run % 16), 0);
                Script.due("a new state 0", fresh.was(0, function, run / 16, run % 16), 0);
            }
        }
    }

    private static void objectsStandAlone() {
        WordsBeside one = new WordsBeside();
        WordsBeside other = new WordsBeside();
        one.step(0, 507);
        one.keep();
        one.claim(0, 1, 0, 0);
        Script.due("run of the other", other.run(0, 0, 0), 0);
        Script.due("states of the other", other.count(1), 0);
        Script.due("claims of the other", other.count(0), 0);
    }
}
