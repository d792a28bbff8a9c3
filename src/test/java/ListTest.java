/** Promises 13 and 14. */
public final class ListTest {

    public static void main(String[] args) {
        mark();
        list();
        Script.end();
    }

    private static void mark() {
        Script.hold("mark", """
            mark 0 = no
            claim 0 0 0 0 = 0
            claim 0 0 1 1 = 1
            mark -1 = no
            mark 2 = no
            mark most = no
            mark refused = no
            count 5 = 0
            mark 0 = yes              # one that is held too
            mark 0 = no
            count 5 = 1
            told 0 7 = 1
            told 1 7 = 0
            listed 0 = 1
            mark 1 = yes
            listed 0 = none
            count 3 = 1               # but for the list it counts
            """);
    }

    private static void list() {
        Script.hold("the most harm first, of like ones by numbers", """
            step 0 2501 = 1
            claim 0 0 0 12 = 0        # 48
            claim 0 0 0 15 = 1        # held
            claim 0 5 0 3 = 2         # 1
            claim 0 0 1 15 = 3        # 16
            claim 0 0 3 15 = 4        # 48
            claim 0 0 20 30 = 5       # 256
            listed 0 = 5
            listed 1 = 0
            listed 2 = 4
            listed 3 = 3
            listed 4 = 2
            listed 5 = none
            listed 6 = none
            mark 0 = yes
            listed 0 = 5
            listed 1 = 4
            listed 2 = 3
            listed 3 = 2
            listed 4 = none
            clear 0 = yes
            listed 0 = 3
            listed 1 = 4
            listed 2 = 5
            listed 3 = 2
            listed 4 = none
            listed -1 = none
            listed most = none
            listed refused = none
            """);
        Script forty = new Script("a list of forty");
        for (int claim = 0; claim < 40; claim++) {
            forty.hold("claim 0 0 1 2 = " + claim);
        }
        forty.hold("listed 0 = 0\nlisted 39 = 39\nlisted 40 = none");
    }
}
