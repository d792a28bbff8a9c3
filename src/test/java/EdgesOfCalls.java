import java.util.stream.IntStream;

/** The document's promises, each sentence of them by the call that it is about. */
final class EdgesOfCalls {

    private static final int[] FUNCTIONS = IntStream.range(0, 6).toArray();
    private static final int[] KINDS = IntStream.range(0, 8).toArray();

    private EdgesOfCalls() {
    }

    static void hold() {
        newObject();
        clear();
        step();
        change();
        run();
        keep();
        was();
        claim();
        claimNumbers();
        told();
        toldOfNone();
        denied();
        mend();
        mended();
        mark();
        listed();
        missing();
        count();
        countOfFunctions();
        countOfOthers();
        lastCalls();
    }

    private static void newObject() {
        Script without = Sentence.of(Sentence.promise(1), "FUNCTIONS without STEPS (they GIVE 0);");
        without.each("count 1* = 0", FUNCTIONS).each("count 2* = 0", FUNCTIONS).each("missing * = 0", FUNCTIONS);
        for (int corner : new int[] {0, 15, 240, 255}) {
            String xAndY = corner / 16 + " " + corner % 16;
            without.each("run * " + xAndY + " = 0", FUNCTIONS).each("was 0 * " + xAndY + " = 0", FUNCTIONS);
        }
        without.hold("count 1 = 0\nwas 1 0 0 0 = refused");

        Sentence.of(Sentence.promise(1), "no CLAIMS.").each("count * = 0", 0, 2, 3, 4, 5)
                .each("told 0 * = refused", 0, 1, 2, 3, 4, 5, 6, 7)
                .hold("denied 0 = none\nmend 0 0 = refused\nmended 0 = no\nmark 0 = no\nlisted 0 = none")
                .hold("claim 0 1 0 0 = 0");
    }

    private static void clear() {
        Sentence.hold(Sentence.promise(2), "A FUNCTION has no STEPS any more: true;", """
            clear 0 = yes             # without STEPS too
            clear 5 = yes
            step 0 507 = 1
            step 0 1501 = 2
            step 1 9000 = 1
            clear 0 = yes
            count 10 = 0
            run 0 0 0 = 0
            run 1 0 0 = 0
            count 11 = 1              # the others keep theirs
            change 0 0 507 = no
            change 0 1 507 = no
            clear 0 = yes
            step 0 1503 = 1
            run 0 0 0 = 3
            """);
        Sentence.of(Sentence.promise(2), "false if there is none such.")
                .each("step * 507 = 1", FUNCTIONS).each("clear * = no", Outside.of(0, 5))
                .each("count 1* = 1", FUNCTIONS).each("run * 0 0 = 7", FUNCTIONS);
    }

    private static void step() {
        Sentence.hold(Sentence.promise(3), "A STEP more: how many it has;", """
            step 0 507 = 1
            step 0 507 = 2
            step 5 507 = 1            # its own, not all
            step 0 1501 = 3
            run 0 0 0 = 8             # it is behind the others
            """);
        Sentence.of(Sentence.promise(3), "NONE if there is no such FUNCTION,")
                .each("step * 507 = none", Outside.of(0, 5)).each("count 1* = 0", FUNCTIONS)
                .each("run * 0 0 = 0", FUNCTIONS);
        Sentence.of(Sentence.promise(3), "it can't be,")
                .each("step 5 * = none", -1, -500, -1000, 9005, 9006, 9999, 10000, 11000, Integer.MIN_VALUE,
                        Integer.MAX_VALUE)
                .hold("count 15 = 0\nrun 5 0 0 = 0\nstep 5 9004 = 1\nstep 5 9004 = 2\nstep 5 9004 = none\ncount 15 = 2");
        Script twelve = Sentence.of(Sentence.promise(3), "or it has 12.");
        for (int k = 1; k <= 12; k++) {
            twelve.each("step 0 1501 = *", k);
        }
        twelve.hold("""
            step 0 1501 = none
            step 0 8000 = none
            count 10 = 12
            run 0 0 0 = 12
            count 11 = 0              # it goes to no other one
            run 1 0 0 = 0
            clear 0 = yes
            step 0 1501 = 1           # there is room again
            """);
    }

    private static void change() {
        Script twelve = Sentence.of(Sentence.promise(4), "STEP k becomes another one: true;");
        for (int k = 1; k <= 12; k++) {
            twelve.each("step 0 1501 = *", k);
        }
        twelve.hold("""
            change 0 0 1510 = yes     # the first one
            run 0 0 0 = 21
            change 0 11 4502 = yes    # the last one
            run 0 0 0 = 40
            change 0 11 4502 = yes    # by one that is the same
            count 10 = 12
            change 0 5 500 = yes
            run 0 0 0 = 10            # 5 behind it, and twice
            """);
        Script none = Sentence.of(Sentence.promise(4), "false if there is none such,");
        none.hold("change 1 0 509 = no\nstep 0 507 = 1\nstep 1 508 = 1\nstep 1 1500 = 2\nstep 2 509 = 1");
        none.each("change 1 * 500 = no", Outside.of(0, 1)).each("change * 0 500 = no", Outside.of(0, 5));
        none.hold("""
            change 1 -12 500 = no     # it is none of another FUNCTION
            change 0 12 500 = no
            change 3 0 500 = no
            run 0 0 0 = 7
            run 1 0 0 = 8
            run 2 0 0 = 9
            count 10 = 1
            count 11 = 2
            clear 1 = yes
            change 1 0 500 = no
            """);
        Sentence.of(Sentence.promise(4), "or it can't be.").hold("step 3 507 = 1\nstep 3 9000 = 2\nstep 3 9000 = 3")
                .each("change 3 0 * = no", -1, -500, -1000, 9000, 9003, 9004, 9999, 10000, 11000, Integer.MIN_VALUE,
                        Integer.MAX_VALUE)
                .hold("change 3 2 500 = yes\nchange 3 1 500 = yes\nchange 3 1 10000 = no\nrun 3 0 0 = 0\ncount 13 = 3");
    }

    private static void run() {
        Sentence.hold(Sentence.promise(5), "What a RUN GIVES;", """
            run 5 15 15 = 0
            step 5 2516 = 1
            step 5 3501 = 2
            run 5 0 0 = 0
            run 5 0 15 = 15
            run 5 15 0 = 240
            run 5 15 15 = 255
            change 5 0 2499 = yes
            run 5 15 0 = -15
            """);
        Sentence.hold(Sentence.promise(5), "-2147483648 if it is REFUSED,", """
            step 0 2501 = 1
            step 0 7515 = 2
            step 0 8000 = 3
            run 0 14 15 = 14
            run 0 15 0 = refused
            step 1 9000 = 1
            run 1 15 0 = refused
            """);
        Sentence.of(Sentence.promise(5), "or there is none such.").each("step * 507 = 1", FUNCTIONS)
                .each("run * 0 0 = refused", Outside.of(0, 5)).each("run 0 * 0 = refused", Outside.of(0, 15))
                .each("run 0 0 * = refused", Outside.of(0, 15))
                .hold("run 0 0 16 = refused\nrun 1 0 -1 = refused\nrun 1 -1 15 = refused\nrun 0 16 0 = refused");
    }

    private static void keep() {
        Script thirty = Sentence.of(Sentence.promise(6), "The state is KEPT: its number;");
        thirty.hold("step 0 507 = 1\nkeep = 1\nclear 0 = yes\nkeep = 2\nkeep = 3");
        thirty.hold("was 1 0 0 0 = 7\nwas 2 0 0 0 = 0\nwas 3 0 0 0 = 0\ncount 1 = 3");
        Script full = Sentence.of(Sentence.promise(6), "NONE if 30 were.");
        for (int state = 1; state <= 30; state++) {
            full.each("keep = *", state);
        }
        full.hold("step 0 507 = 1\nkeep = none\nkeep = none\ncount 1 = 30\nwas 30 0 0 0 = 0\nwas 31 0 0 0 = refused");
    }

    private static void was() {
        Sentence.hold(Sentence.promise(7), "What a RUN gave in a state", """
            step 5 2516 = 1
            step 5 3501 = 2
            keep = 1
            clear 5 = yes
            was 1 5 0 0 = 0
            was 1 5 0 15 = 15
            was 1 5 15 0 = 240
            was 1 5 15 15 = 255
            run 5 15 15 = 0
            """);
        Script states = Sentence.of(Sentence.promise(7), "(0 .. those that are KEPT);");
        states.hold("step 0 507 = 1").each("was * 0 0 0 = refused", Outside.of(0, 0)).hold("was 0 0 0 0 = 0\nkeep = 1");
        states.each("was * 0 0 0 = refused", Outside.of(0, 1)).hold("was 1 0 0 0 = 7");
        for (int state = 2; state <= 30; state++) {
            states.each("was * 0 0 0 = refused", state).each("keep = *", state).each("was * 0 0 0 = 7", state);
        }
        states.each("was * 0 0 0 = refused", Outside.of(0, 30));
        Sentence.of(Sentence.promise(7), "-2147483648 likewise.")
                .hold("step 0 2501 = 1\nstep 0 7515 = 2\nstep 0 8000 = 3\nkeep = 1\nclear 0 = yes")
                .hold("was 1 0 14 15 = 14\nwas 1 0 15 0 = refused\nrun 0 15 0 = 0")
                .each("was 1 * 0 0 = refused", Outside.of(0, 5)).each("was 1 0 * 0 = refused", Outside.of(0, 15))
                .each("was 1 0 0 * = refused", Outside.of(0, 15))
                .hold("was 1 0 1 -1 = refused\nwas 1 0 0 16 = refused\nwas 0 5 16 0 = refused\nwas 1 -1 16 0 = refused");
    }

    private static void claim() {
        Script number = Sentence.of(Sentence.promise(8), "A CLAIM: its number.");
        for (int kind : KINDS) {
            number.each("claim " + kind % 6 + " " + kind + " 1 2 = *", kind);
        }
        Sentence.of(Sentence.promise(8), "NONE if there is no such FUNCTION or KIND,")
                .each("claim * 1 0 0 = none", Outside.of(0, 5)).each("claim 0 * 1 1 = none", Outside.of(0, 7))
                .each("claim * 0 0 0 = none", Outside.of(0, 5)).each("claim 5 * 0 0 = none", Outside.of(0, 7))
                .hold("count 0 = 0\nclaim 5 7 0 0 = 0\nclaim 0 0 0 0 = 1");
        Sentence.of(Sentence.promise(8), "p or q can't be").each("claim 0 3 * 0 = none", Outside.of(1, 1000))
                .each("claim 0 5 * 0 = none", Outside.of(0, 255)).each("claim 0 6 * 0 = none", Outside.of(0, 16))
                .each("claim 0 7 * 0 = none", Outside.of(0, 5))
                .hold("""
                    count 0 = 0
                    claim 0 3 1 0 = 0
                    claim 0 3 1000 0 = 1
                    claim 0 5 0 0 = 2
                    claim 0 5 255 0 = 3
                    claim 0 6 0 0 = 4
                    claim 0 6 16 0 = 5
                    claim 0 7 0 0 = 6
                    claim 0 7 5 0 = 7
                    """);
    }

    private static void claimNumbers() {
        int[] far = Outside.of(-1000000, 1000000);
        Sentence.of(Sentence.promise(8), "(KINDS 0, 5: -1000000 .. 1000000;")
                .each("claim 0 0 * 1000000 = none", far).each("claim 0 0 -1000000 * = none", far)
                .each("claim 0 0 * * = none", far).each("claim 0 5 0 * = none", far)
                .hold("""
                    count 0 = 0
                    claim 0 0 -1000000 1000000 = 0
                    claim 0 0 -1000000 -1000000 = 1
                    claim 0 0 1000000 1000000 = 2
                    claim 0 5 255 -1000000 = 3
                    claim 0 5 255 1000000 = 4
                    """);
        Sentence.hold(Sentence.promise(8), "p of 0 not above q;", """
            claim 0 0 1 0 = none
            claim 0 0 -999999 -1000000 = none
            claim 0 0 1000000 999999 = none
            claim 0 0 1000000 -1000000 = none
            claim 0 0 0 0 = 0
            claim 0 0 -7 -7 = 1
            claim 0 0 -7 -6 = 2
            claim 0 5 9 8 = 3         # of KIND 0 alone
            claim 0 3 9 8 = 4
            """);
        Sentence.hold(Sentence.promise(8), "what a KIND doesn't need doesn't matter),", """
            claim 0 1 least most = 0
            claim 0 1 most least = 1
            claim 0 2 least most = 2
            claim 0 2 1000001 -1000001 = 3
            claim 0 4 least most = 4
            claim 0 4 most least = 5
            claim 0 3 1 least = 6
            claim 0 3 1 most = 7
            claim 0 6 0 least = 8
            claim 0 6 0 most = 9
            claim 0 7 0 least = 10
            claim 0 7 0 1000001 = 11
            count 2 = 10              # but for those that refuse from 0 on, all are held
            """);
        Script forty = Sentence.of(Sentence.promise(8), "or 40 came.");
        for (int claim = 0; claim < 40; claim++) {
            forty.each("claim 0 1 0 0 = *", claim);
        }
        forty.each("claim 0 * 1 1 = none", KINDS).hold("count 0 = 40\ntold 40 0 = refused\nmark 39 = yes")
                .hold("claim 0 1 0 0 = none\nlisted 39 = none");
    }

    private static void told() {
        Sentence.hold(Sentence.promise(9), "Of a CLAIM: 0 HELD, BROKEN, STALE,", """
            claim 0 0 0 0 = 0
            claim 0 0 1 1 = 1
            told 0 0 = 0
            told 1 0 = 1
            step 0 501 = 1
            told 0 0 = 2
            told 1 0 = 0
            """);
        Sentence.hold(Sentence.promise(9), "1 its FUNCTION, 2 KIND, 3 p, 4 q,", """
            claim 5 7 0 least = 0
            claim 0 1 most -9 = 1
            told 0 1 = 5
            told 0 2 = 7
            told 0 3 = 0
            told 0 4 = least
            told 1 1 = 0
            told 1 2 = 1
            told 1 3 = most
            told 1 4 = -9
            """);
        Sentence.hold(Sentence.promise(9), "5 HARM,", """
            claim 0 6 16 0 = 0
            told 0 5 = 0
            step 0 2501 = 1
            step 0 3501 = 2
            step 0 7530 = 3
            step 0 8000 = 4
            told 0 5 = 1
            change 0 0 8000 = yes
            told 0 5 = 256
            mark 0 = yes
            told 0 5 = 256
            """);
        Sentence.hold(Sentence.promise(9), "6 SINCE (NONE),", """
            claim 0 0 0 0 = 0
            claim 0 0 5 5 = 1
            told 0 6 = none           # held
            told 1 6 = none           # broken
            step 0 501 = 1
            told 0 6 = 1
            keep = 1
            told 0 6 = 1
            told 1 6 = none
            clear 0 = yes
            told 0 6 = none
            """);
        Sentence.hold(Sentence.promise(9), "7 whether it has a MARK.", """
            claim 0 0 0 0 = 0
            claim 0 0 1 1 = 1
            told 0 7 = 0
            told 1 7 = 0
            mark 1 = yes
            told 0 7 = 0
            told 1 7 = 1
            mark 1 = no
            told 1 7 = 1
            """);
    }

    private static void toldOfNone() {
        Sentence.of(Sentence.promise(9), "-2147483648 for others,").hold("claim 0 0 1 2 = 0")
                .each("told 0 * = refused", Outside.of(0, 7));
        Script none = Sentence.of(Sentence.promise(9), "or if there is none such.");
        none.each("told * 0 = refused", 0, 1).hold("claim 0 0 1 2 = 0");
        for (int what = 0; what < 8; what++) {
            none.each("told * " + what + " = refused", Outside.of(0, 0));
        }
        none.hold("claim 0 9 1 2 = none\ntold 1 0 = refused");
        Script full = new Script("told, of one behind forty");
        for (int claim = 0; claim < 40; claim++) {
            full.each("claim 0 1 0 0 = *", claim);
        }
        full.each("told * 2 = refused", Outside.of(0, 39)).hold("told 39 2 = 1");
    }

    private static void denied() {
        Sentence.hold(Sentence.promise(10), "The first RUN that DENIES a CLAIM NOW: 16 x and y;", """
            step 0 2501 = 1
            step 0 3501 = 2
            claim 0 0 1 30 = 0
            denied 0 = 0
            claim 0 0 0 29 = 1
            denied 1 = 255
            claim 0 0 0 14 = 2
            denied 2 = 15
            claim 0 0 0 15 = 3
            denied 3 = 31
            keep = 1
            step 0 500 = 3
            denied 0 = 0
            denied 1 = none           # NOW, not in a state
            """);
        Sentence.of(Sentence.promise(10), "NONE if it is HELD,")
                .hold("claim 0 0 0 0 = 0\nclaim 0 6 16 0 = 1\nclaim 0 5 0 0 = 2\nclaim 0 3 1000 0 = 3")
                .each("denied * = none", 0, 1, 2, 3).hold("mark 0 = yes\ndenied 0 = none");
        Sentence.of(Sentence.promise(10), "or there is none such.").hold("denied 0 = none\nclaim 0 0 1 1 = 0")
                .each("denied * = none", Outside.of(0, 0)).hold("denied 0 = 0");
    }

    private static void mend() {
        Sentence.hold(Sentence.promise(11), "MEND: the first number (what 0), the second one (1, of KIND 0);", """
            step 0 2503 = 1
            step 0 1498 = 2
            claim 0 0 1000000 1000000 = 0
            mend 0 0 = -2
            mend 0 1 = 43
            told 0 3 = 1000000        # asking changes nothing
            told 0 4 = 1000000
            claim 0 5 255 0 = 1
            mend 1 0 = 43
            """);
        Script others = Sentence.of(Sentence.promise(11), "-2147483648 for others,");
        others.hold("step 0 506 = 1\nclaim 0 0 0 0 = 0\nclaim 0 3 5 0 = 1\nclaim 0 5 0 0 = 2\nclaim 0 6 0 0 = 3");
        others.hold("mend 0 0 = 6\nmend 0 1 = 6\nmend 1 0 = 6\nmend 2 0 = 6\nmend 3 0 = 16");
        others.each("mend * 1 = refused", 1, 2, 3);
        for (int claim = 0; claim < 4; claim++) {
            others.each("mend " + claim + " * = refused", Outside.of(0, 1));
        }
        Sentence.of(Sentence.promise(11), "or if there is none.").hold("mend 0 0 = refused\nclaim 0 0 1 1 = 0")
                .each("mend * 0 = refused", Outside.of(0, 0)).each("mend * 1 = refused", Outside.of(0, 0))
                .hold("""
                    mend 0 0 = 0
                    claim 0 0 0 0 = 1
                    mend 1 0 = refused        # it is held
                    mend 1 1 = refused
                    step 1 3501 = 1
                    step 1 7501 = 2
                    step 1 8000 = 3
                    claim 1 1 0 0 = 2
                    claim 1 6 3 0 = 3
                    claim 1 5 1 0 = 4
                    mend 2 0 = refused        # of its KIND there is none
                    mend 3 0 = refused        # there is no such p
                    mend 4 0 = refused        # that run is refused
                    """);
    }

    private static void mended() {
        Sentence.hold(Sentence.promise(12), "A CLAIM gets its MEND's numbers: true;", """
            step 0 2503 = 1
            step 0 1498 = 2
            claim 0 0 0 0 = 0
            claim 0 5 255 0 = 1
            claim 0 3 7 9 = 2
            claim 0 6 0 9 = 3
            mended 0 = yes
            told 0 3 = -2
            told 0 4 = 43
            mended 1 = yes
            told 1 3 = 255
            told 1 4 = 43
            mended 2 = yes
            told 2 3 = 1
            told 2 4 = 9
            mended 3 = yes
            told 3 3 = 16
            told 3 4 = 9
            count 2 = 4               # now all are held
            listed 0 = none
            """);
        new Script("mended, it is held against its states by the numbers that it has now").hold("""
            claim 0 5 0 0 = 0
            step 0 501 = 1
            keep = 1
            change 0 0 502 = yes
            keep = 2
            told 0 6 = 1
            change 0 0 501 = yes
            mended 0 = yes
            told 0 6 = none
            change 0 0 503 = yes
            told 0 0 = 2
            told 0 6 = 2              # it came ahead of state 1, and that gave 1
            mended 0 = yes
            change 0 0 501 = yes
            told 0 0 = 1              # 3 was in no state
            """);
        Sentence.of(Sentence.promise(12), "false if there is none.").hold("mended 0 = no\nclaim 0 0 1 1 = 0")
                .each("mended * = no", Outside.of(0, 0))
                .hold("""
                    mended 0 = yes
                    mended 0 = no             # it is held
                    told 0 3 = 0
                    step 1 3501 = 1
                    step 1 7501 = 2
                    step 1 8000 = 3
                    claim 1 1 7 8 = 1
                    claim 1 6 3 8 = 2
                    claim 1 5 1 8 = 3
                    claim 1 4 7 8 = 4
                    claim 1 7 0 8 = 5
                    count 2 = 1
                    mended 1 = no
                    mended 2 = no
                    mended 3 = no
                    mended 4 = no
                    mended 5 = no
                    told 1 3 = 7
                    told 2 3 = 3
                    told 3 3 = 1
                    told 3 4 = 8
                    told 5 3 = 0
                    """);
    }

    private static void mark() {
        Sentence.hold(Sentence.promise(13), "A MARK: true;", """
            claim 0 0 0 0 = 0
            claim 0 0 1 1 = 1
            mark 0 = yes              # one that is held too
            mark 1 = yes
            told 0 7 = 1
            told 1 7 = 1
            count 5 = 2
            """);
        Sentence.of(Sentence.promise(13), "false if there is none such,").hold("mark 0 = no\nclaim 0 0 1 1 = 0")
                .each("mark * = no", Outside.of(0, 0)).hold("count 5 = 0\ntold 0 7 = 0\nclaim 0 0 1 1 = 1\ntold 1 7 = 0");
        Sentence.hold(Sentence.promise(13), "or it has one.", """
            claim 0 0 1 1 = 0
            mark 0 = yes
            mark 0 = no
            mark 0 = no
            told 0 7 = 1              # it stays
            listed 0 = none
            mended 0 = yes
            mark 0 = no               # mended or not
            count 5 = 1
            """);
    }

    private static void listed() {
        Script forty = Sentence.of(Sentence.promise(14), "The i-th of the list (from 0 on);");
        for (int claim = 0; claim < 40; claim++) {
            forty.each("claim 0 0 1 2 = *", claim);
        }
        for (int i = 0; i < 40; i++) {
            forty.hold("listed " + i + " = " + i);
        }
        forty.hold("mark 0 = yes\nmark 39 = yes\nlisted 0 = 1\nlisted 37 = 38\nlisted 38 = none");
        Sentence.of(Sentence.promise(14), "NONE if there is none such.")
                .each("listed * = none", Outside.of(0, 0)).hold("listed 0 = none\nclaim 0 0 0 0 = 0\nlisted 0 = none")
                .hold("claim 0 0 1 1 = 1\nclaim 0 0 1 1 = 2\nlisted 1 = 2")
                .each("listed * = none", Outside.of(0, 1)).hold("mark 2 = yes\nlisted 1 = none\nlisted 0 = 1");
    }

    private static void missing() {
        Sentence.hold(Sentence.promise(15), "MISSING (bits);", """
            missing 5 = 0
            step 5 500 = 1
            missing 5 = 4
            change 5 0 8000 = yes
            missing 5 = 5
            change 5 0 499 = yes
            missing 5 = 6
            step 5 2501 = 2
            step 5 7501 = 3
            step 5 8000 = 4           # -1, 0, and refused from 2 on
            missing 5 = 7
            claim 5 3 1 0 = 0
            missing 5 = 3
            claim 5 6 0 0 = 1
            missing 5 = 2
            claim 5 0 5 5 = 2
            missing 5 = 0
            """);
        Sentence.of(Sentence.promise(15), "NONE if there is no such FUNCTION.").each("step * 507 = 1", FUNCTIONS)
                .each("missing * = none", Outside.of(0, 5)).each("missing * = 4", FUNCTIONS);
    }

    private static void count() {
        Script claims = Sentence.of(Sentence.promise(16), "0 CLAIMS,");
        claims.hold("count 0 = 0\nclaim 0 9 0 0 = none\ncount 0 = 0");
        for (int claim = 0; claim < 40; claim++) {
            claims.each("claim 0 1 0 0 = *", claim).each("count 0 = *", claim + 1);
        }
        claims.hold("claim 0 1 0 0 = none\ncount 0 = 40\nmark 3 = yes\ncount 0 = 40");
        Script states = Sentence.of(Sentence.promise(16), "1 states KEPT,");
        states.hold("count 1 = 0");
        for (int state = 1; state <= 30; state++) {
            states.each("keep = *", state).each("count 1 = *", state);
        }
        states.hold("keep = none\ncount 1 = 30");
        Sentence.hold(Sentence.promise(16), "2 HELD, 3 BROKEN, 4 STALE,", """
            count 2 = 0
            count 3 = 0
            count 4 = 0
            claim 0 0 0 0 = 0
            claim 0 0 0 1 = 1
            claim 0 0 0 2 = 2
            claim 0 0 1 1 = 3
            claim 0 0 2 2 = 4
            count 2 = 3
            count 3 = 2
            count 4 = 0
            mark 0 = yes
            mark 3 = yes
            count 2 = 3               # a MARK doesn't matter here
            count 3 = 2
            step 0 502 = 1
            count 2 = 2
            count 3 = 1
            count 4 = 2
            """);
        Sentence.hold(Sentence.promise(16), "5 those with a MARK;", """
            count 5 = 0
            claim 0 0 0 0 = 0
            claim 0 0 1 1 = 1
            count 5 = 0
            mark 0 = yes
            count 5 = 1
            mark 0 = no
            mark 2 = no
            count 5 = 1
            mark 1 = yes
            count 5 = 2
            """);
    }

    private static void countOfFunctions() {
        Script steps = Sentence.of(Sentence.promise(16), "10 and a FUNCTION: its STEPS;");
        for (int function : FUNCTIONS) {
            for (int k = 1; k <= function * 2 + 2; k++) {
                steps.each("step " + function + " 500 = *", k);
            }
        }
        for (int function : FUNCTIONS) {
            steps.hold("count 1" + function + " = " + (function * 2 + 2));
        }
        steps.hold("step 5 500 = none\ncount 15 = 12\nclear 5 = yes\ncount 15 = 0\nclear 0 = yes\ncount 10 = 0");
        Sentence.hold(Sentence.promise(16), "20 and a FUNCTION: how many RUNS are REFUSED.", """
            count 20 = 0
            count 25 = 0
            step 0 8000 = 1
            count 20 = 256
            step 5 2501 = 1
            step 5 3501 = 2
            step 5 7530 = 3
            step 5 8000 = 4
            count 25 = 1
            step 4 9000 = 1
            count 24 = 256
            clear 0 = yes
            count 24 = 0              # NOW
            """);
    }

    private static void countOfOthers() {
        Sentence.of(Sentence.promise(16), "NONE for others.")
                .hold("claim 0 1 0 0 = 0\nstep 0 8000 = 1\nstep 5 8000 = 1\nkeep = 1")
                .each("count * = none", IntStream.range(6, 10).toArray())
                .each("count * = none", IntStream.range(16, 20).toArray())
                .each("count * = none", Outside.of(0, 25))
                .each("count * = none", 30, 35, 36, 40, 100, 110, 120, 265, 266, 276, 281)
                .hold("count 10 = 1\ncount 15 = 1\ncount 20 = 256\ncount 25 = 256");
    }

    /** The last call that is promised anything, where all that can be full is full. */
    private static void lastCalls() {
        Script last = Sentence.of("What it is", "An object is used for at most 512 calls after it has been made;");
        for (int function : FUNCTIONS) {
            for (int k = 1; k <= 12; k++) {
                last.hold("step " + function + " 1501 = " + k);
            }
        }
        for (int claim = 0; claim < 40; claim++) {
            last.each("claim 5 5 0 0 = *", claim);
        }
        for (int state = 1; state <= 30; state++) {
            last.each("keep = *", state);
        }
        for (int change = 1; change <= 184; change++) {
            last.each("change 0 11 * = yes", 1500 + change).hold("listed 39 = 39");
        }
        last.hold("run 0 15 15 = 195\ntold 39 6 = 1");
    }
}
