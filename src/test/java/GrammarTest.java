/** Promises 16 and 17 (type, trees), with the TEXT and the TREES: a sentence above each test. */
public final class GrammarTest {
    private static final Expect EXPECT = new Expect("GrammarTest");

    public static void main(String[] args) {
        highestFirst();
        zerosPassedOver();
        nothingButZeros();
        otherBytes();
        otherByteAmongGoodOnes();
        moreThanSixty();
        sixtyByWholeParts();
        treesOfEmptyTray();
        treesOfEmptyText();
        noTree();
        oneTree();
        twoTrees();
        backwards();
        longWords();
        EXPECT.end();
    }

    /** Lays the copying dominoes of a text: with just this text typed, there are two trees. */
    private static void layCopies(PostChain x, String text) {
        for (char c : text.toCharArray()) {
            x.lay(1 + "#012".indexOf(c));
        }
    }

    private static void reads(String name, long part, String due) {
        PostChain x = new PostChain();
        EXPECT.yes(name, x.type(part));
        layCopies(x, due);
        EXPECT.same(name, x.trees(), 2);
    }

    /** "Adds the characters that are the eight bytes of part, the highest first" */
    private static void highestFirst() {
        reads("eight bytes", Ask.part("012#0121"), "012#0121");
        PostChain x = new PostChain();
        x.type(Ask.part("01"));
        x.type(Ask.part("2#"));
        layCopies(x, "012#");
        EXPECT.same("a part behind the one before", x.trees(), 2);
        PostChain letters = new PostChain();
        letters.rule(3, 2, 1, false, 2);
        letters.lay(7);
        letters.type(Ask.part("2d2"));
        EXPECT.same("letters", letters.trees(), 1);
    }

    /** "(bytes that are 0 are passed over)" */
    private static void zerosPassedOver() {
        reads("zeros ahead", Ask.part("12"), "12");
        reads("zeros behind", Ask.part("12") << 48, "12");
        reads("zeros between", Ask.part("0") << 56 | Ask.part("1") << 24 | Ask.part("2"), "012");
        for (int place = 0; place < 8; place++) {
            reads("the byte " + place + " alone", (long) '2' << 8 * place, "2");
        }
    }

    /** "(bytes that are 0 are passed over)": all eight. */
    private static void nothingButZeros() {
        PostChain x = new PostChain();
        x.lay(2);
        EXPECT.yes("type(0) of an empty text", x.type(0));
        x.type('0');
        EXPECT.yes("type(0)", x.type(0));
        EXPECT.same("type(0) adds nothing", x.trees(), 2);
        PostChain full = new PostChain();
        Ask.type(full, "0".repeat(60));
        EXPECT.yes("type(0) of a full text", full.type(0));
        layCopies(full, "0".repeat(60));
        EXPECT.same("60 still", full.trees(), 2);
    }

    /** "false if another byte is none of # 0 1 2 a b c d h": every byte in every place. */
    private static void otherBytes() {
        for (int place = 0; place < 8; place++) {
            PostChain x = new PostChain();
            for (int c = 1; c < 256; c++) {
                x.clear();
                boolean due = "#012abcdh".indexOf(c) >= 0;
                EXPECT.same("byte " + c + " in place " + place, x.type((long) c << 8 * place) ? 1 : 0, due ? 1 : 0);
            }
        }
    }

    /** "false if another byte is none of # 0 1 2 a b c d h": beside good ones, none of which is added. */
    private static void otherByteAmongGoodOnes() {
        PostChain x = new PostChain();
        x.lay(2);
        x.type('0');
        for (int place = 0; place < 8; place++) {
            long other = Ask.part("00000000") ^ (long) 'x' << 8 * place;
            EXPECT.no("a wrong one in place " + place, x.type(other));
        }
        EXPECT.no("a wrong one and zeros", x.type(Ask.part("0x") << 32));
        EXPECT.no("all bits", x.type(-1));
        EXPECT.no("the highest bit", x.type(Long.MIN_VALUE));
        EXPECT.no("all bits but the highest", x.type(Long.MAX_VALUE));
        EXPECT.same("nothing was added", x.trees(), 2);
    }

    /** "or there would be more than 60" and "THE TEXT one of at most 60 characters" */
    private static void moreThanSixty() {
        PostChain x = new PostChain();
        layCopies(x, "0".repeat(60));
        EXPECT.yes("56", Ask.type(x, "0".repeat(56)));
        EXPECT.no("64", x.type(Ask.part("00000000")));
        EXPECT.no("61", x.type(Ask.part("00000")));
        EXPECT.same("not 60 yet", x.trees(), 0);
        EXPECT.yes("60", x.type(Ask.part("0000") << 16));
        EXPECT.same("60", x.trees(), 2);
        EXPECT.no("61", x.type('0'));
        EXPECT.no("61, in the highest byte", x.type((long) '0' << 56));
        EXPECT.same("60 still", x.trees(), 2);
    }

    /** "or there would be more than 60": only what is added counts. */
    private static void sixtyByWholeParts() {
        PostChain whole = new PostChain();
        Ask.type(whole, "0".repeat(52));
        EXPECT.yes("60 by a whole part", whole.type(Ask.part("00000000")));
        PostChain more = new PostChain();
        Ask.type(more, "0".repeat(53));
        EXPECT.no("61 by a whole part", more.type(Ask.part("00000000")));
        EXPECT.yes("60 by seven", more.type(Ask.part("0000000")));
        PostChain last = new PostChain();
        Ask.type(last, "0".repeat(59));
        EXPECT.no("61 by two", last.type(Ask.part("00")));
        EXPECT.yes("60 by one", last.type('0'));
    }

    /** "0 if the tray is empty" */
    private static void treesOfEmptyTray() {
        PostChain x = new PostChain();
        EXPECT.same("an empty text", x.trees(), 0);
        x.type('#');
        EXPECT.same("a text", x.trees(), 0);
        x.lay(1);
        EXPECT.same("its domino", x.trees(), 2);
        x.clear();
        EXPECT.same("both cleared", x.trees(), 0);
    }

    /** "It has as many TREES from S as there are": an empty text has none, no domino having empty texts. */
    private static void treesOfEmptyText() {
        PostChain x = new PostChain();
        for (int d = 0; d < x.dominoes(); d++) {
            x.clear();
            x.lay(d);
            EXPECT.same("an empty text and domino " + d, x.trees(), 0);
        }
    }

    /** "0, 1 or 2": none. */
    private static void noTree() {
        PostChain x = new PostChain();
        x.lay(0);
        Ask.type(x, "#a");
        EXPECT.same("between the words", x.trees(), 0);
        Ask.type(x, "##");
        EXPECT.same("beyond the words", x.trees(), 0);
        x.clear();
        x.lay(2);
        x.type('1');
        EXPECT.same("another character", x.trees(), 0);
        x.lay(2);
        EXPECT.same("a text that is too short", x.trees(), 0);
    }

    /** "0, 1 or 2": one, by the upper or by the lower word. */
    private static void oneTree() {
        PostChain x = new PostChain();
        x.lay(0);
        x.type('#');
        EXPECT.same("the upper word", x.trees(), 1);
        Ask.type(x, "a#");
        EXPECT.same("the lower word", x.trees(), 1);
        x.clear();
        Ask.lay(x, 0, 5);
        Ask.type(x, "#0h");
        EXPECT.same("the upper word of a row that does not fit", x.trees(), 1);
        x.clear();
        Ask.lay(x, 0, 5);
        Ask.type(x, "#a#h");
        EXPECT.same("the lower word of a row that does not fit", x.trees(), 1);
    }

    /** "0, 1 or 2": two, both words being the text. */
    private static void twoTrees() {
        PostChain x = Machines.short1();
        x.layWay();
        Ask.type(x, "#a#1h#h##");
        EXPECT.same("a solution", x.trees(), 2);
        EXPECT.same("trees leaves all", x.trees(), 2);
        x.lay(0);
        EXPECT.same("a domino more", x.trees(), 0);
        x.type('#');
        EXPECT.same("and its upper text", x.trees(), 1);
        PostChain copies = new PostChain();
        layCopies(copies, "#01");
        Ask.type(copies, "#01");
        EXPECT.same("the same words, but no solution", copies.trees(), 2);
    }

    /** "A WORD is a text and then a row of numbers of dominoes, backwards." */
    private static void backwards() {
        PostChain x = new PostChain();
        Ask.lay(x, 2, 3);
        Ask.type(x, "01");
        EXPECT.same("the text in the order of the tray", x.trees(), 2);
        x.clear();
        Ask.lay(x, 2, 3);
        Ask.type(x, "10");
        EXPECT.same("the text against the order of the tray", x.trees(), 0);
    }

    /** A word of more than 60 characters is no text that can be typed. */
    private static void longWords() {
        PostChain x = new PostChain();
        for (int i = 0; i < 60; i++) {
            x.lay(5);
        }
        Ask.type(x, "h".repeat(60));
        EXPECT.same("the lower word has 60, the upper one 120", x.trees(), 1);
        x.clear();
        Ask.lay(x, 0);
        for (int i = 0; i < 59; i++) {
            x.lay(2);
        }
        Ask.type(x, "#" + "0".repeat(59));
        EXPECT.same("the upper word has 60, the lower one 62", x.trees(), 1);
    }
}
