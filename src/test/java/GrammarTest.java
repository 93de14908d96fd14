/** Promises 16 and 17: type, trees. */
public final class GrammarTest {
    private static final Expect EXPECT = new Expect("GrammarTest");

    public static void main(String[] args) {
        characters();
        orderOfBytes();
        refusedParts();
        bound();
        treesOfEmpty();
        treesOfOneWord();
        treesOfSolution();
        EXPECT.end();
    }

    /** Lays the copying dominoes of a text: with just this text typed, there are two trees. */
    private static void layCopies(PostChain x, String text) {
        for (char c : text.toCharArray()) {
            x.lay(1 + "#012".indexOf(c));
        }
    }

    private static void characters() {
        PostChain x = new PostChain();
        for (int c = 1; c < 256; c++) {
            x.clear();
            boolean due = "#012abcdh".indexOf(c) >= 0;
            EXPECT.same("type(" + c + ")", x.type(c) ? 1 : 0, due ? 1 : 0);
        }
        PostChain high = new PostChain();
        for (int c = 1; c < 256; c++) {
            high.clear();
            boolean due = "#012abcdh".indexOf(c) >= 0;
            EXPECT.same("type, highest byte " + c, high.type((long) c << 56) ? 1 : 0, due ? 1 : 0);
        }
    }

    private static void orderOfBytes() {
        reads("the highest first", Ask.part("012#0121"), "012#0121");
        reads("zeros ahead", Ask.part("12"), "12");
        reads("zeros behind", Ask.part("12") << 48, "12");
        reads("zeros between", Ask.part("0") << 56 | Ask.part("1") << 24 | Ask.part("2"), "012");
        PostChain x = new PostChain();
        x.lay(2);
        EXPECT.yes("type(0)", x.type(0));
        x.type('0');
        EXPECT.yes("type(0)", x.type(0));
        EXPECT.same("type(0) adds nothing", x.trees(), 2);
        PostChain parts = new PostChain();
        parts.type(Ask.part("01"));
        parts.type(Ask.part("2#"));
        layCopies(parts, "012#");
        EXPECT.same("parts stand one behind the other", parts.trees(), 2);
    }

    private static void reads(String name, long part, String due) {
        PostChain x = new PostChain();
        EXPECT.yes(name, x.type(part));
        layCopies(x, due);
        EXPECT.same(name, x.trees(), 2);
    }

    private static void refusedParts() {
        PostChain x = new PostChain();
        x.lay(2);
        x.type('0');
        EXPECT.no("a wrong last one", x.type(Ask.part("00x")));
        EXPECT.no("a wrong first one", x.type(Ask.part("x00")));
        EXPECT.no("a blank", x.type(Ask.part(" ")));
        EXPECT.no("all bits", x.type(-1));
        EXPECT.no("the highest bit", x.type(Long.MIN_VALUE));
        EXPECT.no("a capital", x.type('A'));
        EXPECT.no("a state that is none", x.type('e'));
        EXPECT.no("a symbol that is none", x.type('3'));
        EXPECT.same("nothing was added", x.trees(), 2);
    }

    private static void bound() {
        PostChain x = new PostChain();
        layCopies(x, "0".repeat(60));
        EXPECT.yes("56", Ask.type(x, "0".repeat(56)));
        EXPECT.no("64", x.type(Ask.part("00000000")));
        EXPECT.no("61", x.type(Ask.part("00000")));
        EXPECT.same("not 60 yet", x.trees(), 0);
        EXPECT.yes("60", x.type(Ask.part("0000")));
        EXPECT.same("60", x.trees(), 2);
        EXPECT.no("61", x.type('0'));
        EXPECT.yes("nothing more", x.type(0));
        EXPECT.same("60 still", x.trees(), 2);
        PostChain whole = new PostChain();
        Ask.type(whole, "0".repeat(52));
        EXPECT.yes("60 by a whole part", whole.type(Ask.part("00000000")));
        PostChain more = new PostChain();
        Ask.type(more, "0".repeat(53));
        EXPECT.no("61 by a whole part", more.type(Ask.part("00000000")));
    }

    private static void treesOfEmpty() {
        PostChain x = new PostChain();
        EXPECT.same("both empty", x.trees(), 0);
        x.type('#');
        EXPECT.same("an empty tray", x.trees(), 0);
        x.clear();
        x.lay(1);
        EXPECT.same("an empty text", x.trees(), 0);
    }

    private static void treesOfOneWord() {
        PostChain x = new PostChain();
        x.lay(0);
        x.type('#');
        EXPECT.same("the upper word", x.trees(), 1);
        x.type('a');
        EXPECT.same("between the words", x.trees(), 0);
        x.type('#');
        EXPECT.same("the lower word", x.trees(), 1);
        x.type('#');
        EXPECT.same("beyond the words", x.trees(), 0);
        x.clear();
        Ask.lay(x, 2, 3);
        Ask.type(x, "01");
        EXPECT.same("in the order of the tray", x.trees(), 2);
        x.clear();
        Ask.lay(x, 2, 3);
        Ask.type(x, "10");
        EXPECT.same("against the order of the tray", x.trees(), 0);
        x.clear();
        Ask.lay(x, 0, 5);
        Ask.type(x, "#0h");
        EXPECT.same("a row that does not fit, above", x.trees(), 1);
        x.clear();
        Ask.lay(x, 0, 5);
        Ask.type(x, "#a#h");
        EXPECT.same("a row that does not fit, below", x.trees(), 1);
    }

    private static void treesOfSolution() {
        PostChain x = Machines.short1();
        x.layWay();
        Ask.type(x, "#a#1h#h##");
        EXPECT.same("a solution", x.trees(), 2);
        EXPECT.same("trees leaves all", x.trees(), 2);
        x.lay(0);
        EXPECT.same("a domino more", x.trees(), 0);
        x.type('#');
        EXPECT.same("and its upper text", x.trees(), 1);
    }
}
