/** Promise 8, and by which RUNS each KIND is denied. */
public final class ClaimTest {

    public static void main(String[] args) {
        numbers();
        numbersThatCannotBe();
        fortyAtMost();
        denials();
        Script.end();
    }

    private static void numbers() {
        Script.hold("claims that can be", """
            claim 0 0 -1000000 -1000000 = 0
            claim 5 0 1000000 1000000 = 1
            claim 0 1 refused most = 2
            claim 0 2 most refused = 3
            claim 0 3 1 most = 4
            claim 0 3 1000 refused = 5
            claim 0 4 -7 -8 = 6
            claim 0 5 0 -1000000 = 7
            claim 0 5 255 1000000 = 8
            claim 0 6 0 most = 9
            claim 0 6 16 refused = 10
            claim 0 7 0 most = 11
            claim 0 7 5 refused = 12
            count 0 = 13
            told 3 3 = most
            told 3 4 = refused
            """);
    }

    private static void numbersThatCannotBe() {
        Script.hold("claims that can't be", """
            claim -1 1 0 0 = none
            claim 6 1 0 0 = none
            claim most 1 0 0 = none
            claim refused 1 0 0 = none
            claim 0 -1 0 0 = none
            claim 0 8 0 0 = none
            claim 0 most 0 0 = none
            claim 0 refused 0 0 = none
            claim 0 0 1 0 = none
            claim 0 0 -1000001 0 = none
            claim 0 0 0 1000001 = none
            claim 0 0 refused most = none
            claim 0 3 0 0 = none
            claim 0 3 1001 0 = none
            claim 0 3 -1 0 = none
            claim 0 5 -1 0 = none
            claim 0 5 256 0 = none
            claim 0 5 0 -1000001 = none
            claim 0 5 0 1000001 = none
            claim 0 6 -1 0 = none
            claim 0 6 17 0 = none
            claim 0 7 -1 0 = none
            claim 0 7 6 0 = none
            count 0 = 0
            claim 0 1 0 0 = 0         # none of them took a number
            """);
    }

    private static void fortyAtMost() {
        Script forty = new Script("forty");
        for (int claim = 0; claim < 40; claim++) {
            forty.hold("claim " + claim % 6 + " 1 0 0 = " + claim);
        }
        forty.hold("""
            claim 0 1 0 0 = none
            count 0 = 40
            told 39 1 = 3
            told 40 1 = refused
            """);
    }

    private static void denials() {
        Script.hold("between takes no offence at refusals", """
            step 0 2501 = 1
            step 0 7512 = 2
            step 0 8000 = 3
            claim 0 0 3 9 = 0
            denied 0 = 0
            told 0 5 = 80             # x is 0, 1, 2, 10 or 11
            claim 0 0 0 9 = 1
            denied 1 = 160
            told 1 5 = 32
            claim 0 1 0 0 = 2
            denied 2 = 192
            told 2 5 = 64
            """);
        Script.hold("rising: of two that give, one x apart", """
            step 0 2501 = 1
            step 0 10004 = 2
            claim 0 2 0 0 = 0
            denied 0 = 48
            told 0 5 = 48             # x is 3, 7 or 11; 15 has no next one
            step 0 7503 = 3
            step 0 8000 = 4
            denied 0 = none           # the higher one is refused
            change 0 2 7501 = yes
            change 0 3 510 = yes      # 0, 10, 10, 10, and so on
            denied 0 = 48
            clear 0 = yes
            step 0 3499 = 1           # falling by y isn't falling by x
            told 0 5 = 0
            """);
        Script.hold("rising: where the lower one is refused", """
            step 0 2499 = 1
            step 0 7500 = 2
            step 0 8000 = 3
            claim 0 2 0 0 = 0
            denied 0 = 16
            told 0 5 = 224
            """);
        Script.hold("multiple", """
            step 0 2497 = 1
            claim 0 3 3 0 = 0
            told 0 0 = 0
            claim 0 3 6 0 = 1
            denied 1 = 16
            told 1 5 = 128
            step 0 7491 = 2
            step 0 8000 = 3
            told 1 5 = 96             # what is refused, up to an x of 3, gives nothing
            """);
        likeExampleRefusesAs();
    }

    private static void likeExampleRefusesAs() {
        Script.hold("like both ways", """
            step 0 2501 = 1
            step 0 3502 = 2
            claim 0 4 0 0 = 0
            denied 0 = 1
            told 0 5 = 240
            change 0 0 2502 = yes
            told 0 0 = 0
            clear 0 = yes
            step 0 2501 = 1
            step 0 7515 = 2
            step 0 8000 = 3
            step 0 500 = 4
            denied 0 = 15             # one is refused, one isn't
            told 0 5 = 30
            change 0 0 8000 = yes
            told 0 0 = 0              # both are refused
            """);
        Script.hold("example", """
            step 0 2510 = 1
            step 0 3501 = 2
            claim 0 5 52 34 = 0
            told 0 0 = 0
            claim 0 5 67 34 = 1
            denied 1 = 67
            told 1 5 = 1
            step 0 8000 = 3
            denied 0 = 52             # refused isn't given
            """);
        Script.hold("refuses from p on", """
            step 0 2501 = 1
            step 0 7505 = 2
            step 0 8000 = 3
            claim 0 6 5 0 = 0
            told 0 0 = 0
            claim 0 6 4 0 = 1
            denied 1 = 64
            told 1 5 = 16
            claim 0 6 6 0 = 2
            denied 2 = 80
            told 2 5 = 16
            claim 1 6 16 0 = 3
            told 3 0 = 0
            claim 1 6 0 0 = 4
            told 4 5 = 256
            """);
        Script.hold("as function p", """
            step 0 2501 = 1
            step 3 9000 = 1
            claim 3 7 0 0 = 0
            claim 0 7 3 0 = 1
            claim 0 7 5 0 = 2
            told 0 0 = 0
            told 1 0 = 0
            told 2 5 = 240
            denied 2 = 16
            step 3 7505 = 2
            step 3 8000 = 3
            denied 0 = 80
            told 0 5 = 176
            told 1 5 = 176
            step 0 7505 = 2
            step 0 8000 = 3
            told 0 0 = 0              # both are refused
            """);
    }
}
