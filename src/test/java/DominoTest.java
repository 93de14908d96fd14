/** Promises 8 and 9 (dominoes, domino), with the DOMINOES: a sentence above each test. */
public final class DominoTest {
    private static final Expect EXPECT = new Expect("DominoTest");
    private static final String COPIES = " #/# 0/0 1/1 2/2 ";
    private static final String ENDING = "0h/h 1h/h 2h/h h0/h h1/h h2/h h##/#";

    public static void main(String[] args) {
        withoutRules();
        firstDomino();
        rightOfBlank();
        leftOfBlank();
        orderOfRules();
        mostDominoes();
        fewerDominoes();
        dominoLength();
        dominoNoneSuch();
        EXPECT.end();
    }

    /** "How many dominoes there are.": the fewest. */
    private static void withoutRules() {
        PostChain x = new PostChain();
        EXPECT.same("no rules", Ask.dominoes(x, 0, 12), "#/#a#" + COPIES + ENDING);
        EXPECT.same("no rules: count", x.dominoes(), 12);
        x.rule(0, 0, 1, true, 1);
        x.drop(0, 0);
        EXPECT.same("no rule any more: count", x.dominoes(), 12);
    }

    /** "(#, # first-configuration #)": with the shortest and the longest input. */
    private static void firstDomino() {
        PostChain x = new PostChain();
        x.input(4, 32);
        EXPECT.same("the longest input", Ask.dominoes(x, 0, 12), "#/#a1012#" + COPIES + ENDING);
        x.input(1, 0);
        EXPECT.same("a blank", Ask.dominoes(x, 0, 1), "#/#a0#");
        x.input(0, 1);
        EXPECT.same("an empty input", Ask.dominoes(x, 0, 1), "#/#a#");
        x.rule(0, 0, 1, true, 1);
        EXPECT.same("the first configuration, not the last", Ask.dominoes(x, 0, 1), "#/#a#");
    }

    private static void ofRule(int symbol, boolean right, String due) {
        PostChain x = new PostChain();
        x.rule(2, symbol, 1, right, 4);
        int count = due.split(" ").length;
        EXPECT.same("dominoes with the rule for " + symbol, x.dominoes(), 12 + count);
        EXPECT.same("dominoes of the rule for " + symbol, Ask.dominoes(x, 5, count), due);
        EXPECT.same("dominoes behind them", Ask.dominoes(x, 5 + count, 7), ENDING);
    }

    /** "to the right (q s, w n), and if s is 0 also (q #, w n #)" */
    private static void rightOfBlank() {
        ofRule(0, true, "c0/1h c#/1h#");
        ofRule(1, true, "c1/1h");
        ofRule(2, true, "c2/1h");
    }

    /** "to the left, for c = 0, 1, 2, (c q s, n c w), and if s is 0, then for c = 0, 1, 2 (c q #, n c w #)" */
    private static void leftOfBlank() {
        ofRule(0, false, "0c0/h01 1c0/h11 2c0/h21 0c#/h01# 1c#/h11# 2c#/h21#");
        ofRule(1, false, "0c1/h01 1c1/h11 2c1/h21");
        ofRule(2, false, "0c2/h01 1c2/h11 2c2/h21");
    }

    /** "then for each rule, by its state and then by its symbol s" */
    private static void orderOfRules() {
        PostChain x = new PostChain();
        x.rule(3, 2, 0, false, 4);
        x.rule(1, 0, 2, false, 3);
        x.rule(0, 1, 2, true, 1);
        x.rule(0, 0, 1, true, 2);
        EXPECT.same("count", x.dominoes(), 24);
        EXPECT.same("dominoes of rules", Ask.dominoes(x, 0, 24), "#/#a#" + COPIES
                + "a0/1c a#/1c# a1/2b "
                + "0b0/d02 1b0/d12 2b0/d22 0b#/d02# 1b#/d12# 2b#/d22# "
                + "0d2/h00 1d2/h10 2d2/h20 " + ENDING);
        x.drop(1, 0);
        EXPECT.same("count after drop", x.dominoes(), 18);
        EXPECT.same("dominoes after drop", Ask.dominoes(x, 5, 13),
                "a0/1c a#/1c# a1/2b 0d2/h00 1d2/h10 2d2/h20 " + ENDING);
    }

    /** "How many dominoes there are.": the most. */
    private static void mostDominoes() {
        PostChain x = new PostChain();
        for (int i = 0; i < 12; i++) {
            x.rule(i / 3, i % 3, 1, false, 0);
        }
        EXPECT.same("all to the left", x.dominoes(), 60);
        EXPECT.same("the last of the rules", Ask.dominoes(x, 52, 1), "2d2/a21");
        EXPECT.same("behind the rules", Ask.dominoes(x, 53, 7), ENDING);
        EXPECT.none("none behind the last one", x.domino(60, true, -1));
        EXPECT.same("the last one can be laid", x.lay(59), 1);
        EXPECT.none("none behind it can be laid", x.lay(60));
    }

    /** "NONE if there is none such.": not even one that there was before. */
    private static void fewerDominoes() {
        PostChain x = new PostChain();
        for (int i = 0; i < 12; i++) {
            x.rule(i / 3, i % 3, 1, false, 0);
        }
        for (int i = 0; i < 12; i++) {
            x.rule(i / 3, i % 3, 1, true, 0);
        }
        EXPECT.same("all to the right", x.dominoes(), 28);
        EXPECT.none("none of those before", x.domino(28, true, -1));
        EXPECT.none("none of those before", x.domino(28, false, 0));
        // The texts that stood here before were longer.
        EXPECT.same("a shorter text", Ask.dominoes(x, 6, 1), "a#/1a#");
        EXPECT.none("nothing behind it", x.domino(6, true, 2));
    }

    /** "how many it has, if i is -1" */
    private static void dominoLength() {
        PostChain x = Machines.leftAtEnd();
        EXPECT.same("domino(0, true, -1)", x.domino(0, true, -1), 1);
        EXPECT.same("domino(0, false, -1)", x.domino(0, false, -1), 5);
        EXPECT.same("domino(0, false, 4)", x.domino(0, false, 4), '#');
        EXPECT.same("domino(19, true, -1)", x.domino(19, true, -1), 3);
        EXPECT.same("domino(19, false, -1)", x.domino(19, false, -1), 1);
        x.input(4, 0);
        EXPECT.same("domino(0, false, -1), the longest", x.domino(0, false, -1), 7);
        EXPECT.same("domino(0, false, 6)", x.domino(0, false, 6), '#');
        EXPECT.none("domino(0, false, 7)", x.domino(0, false, 7));
    }

    /** "NONE if there is none such." */
    private static void dominoNoneSuch() {
        PostChain x = Machines.leftAtEnd();
        EXPECT.none("domino(0, false, 5)", x.domino(0, false, 5));
        EXPECT.none("domino(0, true, 1)", x.domino(0, true, 1));
        for (int i : new int[] {-2, Integer.MIN_VALUE, Integer.MAX_VALUE}) {
            EXPECT.none("domino(0, true, " + i + ")", x.domino(0, true, i));
            EXPECT.none("domino(0, false, " + i + ")", x.domino(0, false, i));
        }
        EXPECT.same("dominoes", x.dominoes(), 20);
        for (int d : new int[] {-1, -2, 20, 21, 60, Integer.MIN_VALUE, Integer.MAX_VALUE}) {
            EXPECT.none("domino(" + d + ", true, 0)", x.domino(d, true, 0));
            EXPECT.none("domino(" + d + ", false, 0)", x.domino(d, false, 0));
            EXPECT.none("domino(" + d + ", true, -1)", x.domino(d, true, -1));
            EXPECT.none("domino(" + d + ", false, -1)", x.domino(d, false, -1));
        }
    }
}
