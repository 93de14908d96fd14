/** Promises 11 to 15: lay, layWay, clear, tray, back. */
public final class TrayTest {
    private static final Expect EXPECT = new Expect("TrayTest");

    public static void main(String[] args) {
        layAnswers();
        layBound();
        layWayAnswers();
        layWayRefuses();
        clearEmptiesBoth();
        trayFits();
        traySolution();
        longWords();
        backCounts();
        EXPECT.end();
    }

    private static void layAnswers() {
        PostChain x = Machines.short1();
        EXPECT.same("lay(0)", x.lay(0), 1);
        EXPECT.same("lay(13)", x.lay(13), 2);
        EXPECT.same("lay(14)", x.lay(14), -1);
        EXPECT.same("lay(-1)", x.lay(-1), -1);
        EXPECT.same("lay(MIN)", x.lay(Integer.MIN_VALUE), -1);
        EXPECT.same("lay(MAX)", x.lay(Integer.MAX_VALUE), -1);
        EXPECT.same("lay(0) behind refused ones", x.lay(0), 3);
        x.drop(0, 0);
        EXPECT.same("lay(12) where there are 12", x.lay(12), -1);
        EXPECT.same("lay(11) where there are 12", x.lay(11), 1);
    }

    private static void layBound() {
        PostChain x = new PostChain();
        for (int i = 1; i <= 60; i++) {
            EXPECT.same("lay " + i, x.lay(2), i);
        }
        EXPECT.same("lay 61", x.lay(2), -1);
        EXPECT.same("lay of none, at 60", x.lay(99), -1);
        Ask.type(x, "0".repeat(60));
        EXPECT.same("the 60 still lie", x.trees(), 2);
    }

    private static void layWayAnswers() {
        PostChain x = Machines.short1();
        Ask.lay(x, 1, 1, 1, 1, 1, 1, 1);
        Ask.type(x, "#a#1h#h##");
        EXPECT.same("layWay", x.layWay(), 5);
        EXPECT.same("layWay in place of what lay there", x.tray(), 2);
        EXPECT.same("layWay leaves the text", x.trees(), 2);
        EXPECT.same("layWay twice", x.layWay(), 5);
        EXPECT.same("lay behind the way", x.lay(1), 6);
        EXPECT.same("the way is as it was", x.way(-1), 5);
        PostChain most = Machines.way60();
        EXPECT.same("layWay of 60", most.layWay(), 60);
        EXPECT.same("layWay of 60: tray", most.tray(), 2);
        EXPECT.same("no room behind 60", most.lay(0), -1);
        PostChain more = Machines.way61();
        Ask.lay(more, 1, 1);
        Ask.type(more, "##");
        EXPECT.same("layWay of 61", more.layWay(), -1);
        EXPECT.same("layWay of 61 leaves the tray", more.trees(), 2);
    }

    private static void layWayRefuses() {
        PostChain x = Machines.toAndFro();
        Ask.lay(x, 1, 1);
        EXPECT.fails("layWay", IllegalStateException.class, () -> x.layWay());
        EXPECT.same("the tray is as it was", x.lay(1), 3);
    }

    private static void clearEmptiesBoth() {
        PostChain x = Machines.found59();
        x.search(400);
        Ask.type(x, "#");
        x.clear();
        EXPECT.same("clear: tray", x.tray(), 1);
        EXPECT.same("clear: lay", x.lay(1), 1);
        Ask.type(x, "#");
        EXPECT.same("clear: text", x.trees(), 2);
        EXPECT.same("clear leaves looked", x.looked(), 59);
        EXPECT.same("clear leaves the machine", x.steps(), 3);
    }

    private static void trays(String name, PostChain x, int due, int... numbers) {
        x.clear();
        Ask.lay(x, numbers);
        EXPECT.same(name, x.tray(), due);
        EXPECT.same(name + ": back", x.back() == -1 ? 1 : 0, due == 2 ? 0 : 1);
    }

    private static void trayFits() {
        // 5 a0/1h, 6 a#/1h#, 7 .. 9 sh/h, 10 .. 12 hs/h, 13 h##/#
        PostChain x = Machines.short1();
        trays("an empty tray", x, 1);
        trays("the lower word is longer", x, 1, 0);
        trays("the lower word goes on", x, 1, 0, 6);
        trays("a wrong next one", x, 0, 0, 1);
        trays("a wrong one stays wrong", x, 0, 0, 1, 1);
        trays("wrong in the second character", x, 0, 0, 5);
        trays("the upper word is longer", x, 1, 10);
        trays("the upper word goes on", x, 1, 10, 2, 2);
        trays("nothing in common", x, 0, 13);
        trays("nothing in common, of the same length", x, 0, 5);
        trays("the same words, but not from domino 0", x, 1, 1, 2, 3, 4);
    }

    private static void traySolution() {
        PostChain x = Machines.short1();
        trays("the way but for its end", x, 1, 0, 6, 8, 1);
        trays("the way", x, 2, 0, 6, 8, 1, 13);
        trays("the way and a copy", x, 2, 0, 6, 8, 1, 13, 3);
        trays("the way twice", x, 2, 0, 6, 8, 1, 13, 0, 6, 8, 1, 13);
        trays("a copy and the way", x, 1, 1, 0, 6, 8, 1, 13);
        trays("a copy and the way's end", x, 0, 1, 6, 8, 1, 13);
    }

    private static void longWords() {
        PostChain x = new PostChain();
        x.input(4, 0);
        for (int i = 0; i < 60; i++) {
            x.lay(0);
        }
        EXPECT.same("60 times domino 0", x.tray(), 0);
        PostChain ends = new PostChain();
        for (int i = 0; i < 59; i++) {
            ends.lay(2);
        }
        EXPECT.same("59 copies", ends.tray(), 1);
        ends.lay(5);
        EXPECT.same("and a wrong last one", ends.tray(), 0);
    }

    private static void backCounts() {
        PostChain x = Machines.short1();
        EXPECT.same("back of an empty tray", x.back(), -1);
        x.layWay();
        EXPECT.same("back of one step", x.back(), 1);
        Ask.lay(x, 0, 6, 8, 1, 13);
        EXPECT.same("only until the first h", x.back(), 1);
        EXPECT.same("back leaves the tray", x.tray(), 2);
        PostChain y = Machines.leftAtEnd();
        y.layWay();
        EXPECT.same("back of three steps", y.back(), 3);
        y.lay(3);
        EXPECT.same("back with a copy behind", y.back(), 3);
        y.lay(0);
        EXPECT.same("back of no solution", y.back(), -1);
    }
}
