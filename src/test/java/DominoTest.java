/** Promises 8 to 10: dominoes, domino, way. */
public final class DominoTest {
    private static final Expect EXPECT = new Expect("DominoTest");
    private static final String ENDING = "0h/h 1h/h 2h/h h0/h h1/h h2/h h##/#";

    public static void main(String[] args) {
        withoutRules();
        orderOfRules();
        mostDominoes();
        dominoOutside();
        wayTexts();
        wayAfterChange();
        wayOutside();
        wayRefuses();
        wayIsSolution();
        EXPECT.end();
    }

    private static void withoutRules() {
        PostChain x = new PostChain();
        EXPECT.same("no rules", Ask.dominoes(x, 0, 12), "#/#a# #/# 0/0 1/1 2/2 " + ENDING);
        x.input(4, 32);
        EXPECT.same("an input", Ask.dominoes(x, 0, 12), "#/#a1012# #/# 0/0 1/1 2/2 " + ENDING);
        EXPECT.same("count", x.dominoes(), 12);
    }

    private static void orderOfRules() {
        PostChain x = new PostChain();
        x.rule(3, 2, 0, false, 4);
        x.rule(1, 0, 2, false, 3);
        x.rule(0, 1, 2, true, 1);
        x.rule(0, 0, 1, true, 2);
        EXPECT.same("count", x.dominoes(), 24);
        EXPECT.same("dominoes of rules", Ask.dominoes(x, 0, 24),
                "#/#a# #/# 0/0 1/1 2/2 "
                + "a0/1c a#/1c# a1/2b "
                + "0b0/d02 1b0/d12 2b0/d22 0b#/d02# 1b#/d12# 2b#/d22# "
                + "0d2/h00 1d2/h10 2d2/h20 " + ENDING);
        x.drop(1, 0);
        EXPECT.same("count after drop", x.dominoes(), 18);
        EXPECT.same("dominoes after drop", Ask.dominoes(x, 5, 13),
                "a0/1c a#/1c# a1/2b 0d2/h00 1d2/h10 2d2/h20 " + ENDING);
    }

    private static void mostDominoes() {
        PostChain x = new PostChain();
        for (int i = 0; i < 12; i++) {
            x.rule(i / 3, i % 3, 1, false, 0);
        }
        EXPECT.same("all to the left", x.dominoes(), 60);
        EXPECT.same("the last one", Ask.dominoes(x, 59, 1), "h##/#");
        EXPECT.same("the last of the rules", Ask.dominoes(x, 52, 1), "2d2/a21");
        EXPECT.same("none behind the last one", x.domino(60, true, -1), -1);
        for (int i = 0; i < 12; i++) {
            x.rule(i / 3, i % 3, 1, true, 0);
        }
        EXPECT.same("all to the right", x.dominoes(), 28);
        EXPECT.same("none of those before", x.domino(28, true, -1), -1);
    }

    private static void dominoOutside() {
        PostChain x = Machines.leftAtEnd();
        EXPECT.same("domino(0, false, -1)", x.domino(0, false, -1), 5);
        EXPECT.same("domino(0, false, 4)", x.domino(0, false, 4), '#');
        EXPECT.same("domino(0, false, 5)", x.domino(0, false, 5), -1);
        EXPECT.same("domino(0, true, 1)", x.domino(0, true, 1), -1);
        EXPECT.same("domino(0, true, -2)", x.domino(0, true, -2), -1);
        EXPECT.same("domino(0, true, MIN)", x.domino(0, true, Integer.MIN_VALUE), -1);
        EXPECT.same("domino(0, true, MAX)", x.domino(0, true, Integer.MAX_VALUE), -1);
        EXPECT.same("domino(-1, true, -1)", x.domino(-1, true, -1), -1);
        EXPECT.same("domino(20, false, -1)", x.domino(20, false, -1), -1);
        EXPECT.same("domino(20, false, 0)", x.domino(20, false, 0), -1);
        EXPECT.same("domino(MAX, true, 0)", x.domino(Integer.MAX_VALUE, true, 0), -1);
        EXPECT.same("domino(MIN, true, 0)", x.domino(Integer.MIN_VALUE, true, 0), -1);
    }

    private static void wayTexts() {
        EXPECT.same("left at the end", Ask.way(Machines.leftAtEnd()),
                "#/#a12# a1/2a 2/2 #/# 2/2 a2/1b #/# 2/2 1b#/h10# "
                + "2h/h 1/1 0/0 #/# h1/h 0/0 #/# h0/h #/# h##/#");
        EXPECT.same("left inside", Ask.way(Machines.leftInside()),
                "#/#a12# a1/0a 2/2 #/# 0a2/b01 #/# b0/2h 1/1 #/# 2h/h 1/1 #/# h1/h #/# h##/#");
        EXPECT.same("right at the end", Ask.way(Machines.short1()),
                "#/#a# a#/1h# 1h/h #/# h##/#");
        EXPECT.same("both", Ask.way(Machines.found59()),
                "#/#a# a#/1b# 1b#/a11# a1/0h 1/1 #/# 0h/h 1/1 #/# h1/h #/# h##/#");
        PostChain blank = new PostChain();
        blank.input(2, 0);
        blank.rule(0, 0, 2, true, 1);
        blank.rule(1, 0, 1, false, 4);
        EXPECT.same("left over a blank that stands there", Ask.way(blank),
                "#/#a00# a0/2b 0/0 #/# 2b0/h21 #/# h2/h 1/1 #/# h1/h #/# h##/#");
    }

    private static void wayAfterChange() {
        PostChain x = Machines.short1();
        x.rule(0, 0, 2, true, 4);
        EXPECT.same("another rule", Ask.way(x), "#/#a# a#/2h# 2h/h #/# h##/#");
        x.input(1, 0);
        EXPECT.same("another input", Ask.way(x), "#/#a0# a0/2h #/# 2h/h #/# h##/#");
        x.rule(0, 1, 1, false, 0);
        EXPECT.same("more dominoes", Ask.way(x), "#/#a0# a0/2h #/# 2h/h #/# h##/#");
    }

    private static void wayOutside() {
        PostChain x = Machines.short1();
        EXPECT.same("way(-1)", x.way(-1), 5);
        EXPECT.same("way(0)", x.way(0), 0);
        EXPECT.same("way(4)", x.way(4), 13);
        EXPECT.same("way(5)", x.way(5), -1);
        EXPECT.same("way(-2)", x.way(-2), -1);
        EXPECT.same("way(MIN)", x.way(Integer.MIN_VALUE), -1);
        EXPECT.same("way(MAX)", x.way(Integer.MAX_VALUE), -1);
        EXPECT.same("way of 60", Machines.way60().way(-1), 60);
        EXPECT.same("way of 61", Machines.way61().way(-1), 61);
        EXPECT.same("way of 61, the last one", Machines.way61().way(60), Machines.way61().dominoes() - 1);
    }

    private static void wayRefuses() {
        PostChain x = new PostChain();
        EXPECT.fails("way(-1)", IllegalStateException.class, () -> x.way(-1));
        EXPECT.fails("way(0)", IllegalStateException.class, () -> x.way(0));
        EXPECT.fails("way(-7)", IllegalStateException.class, () -> x.way(-7));
        PostChain y = Machines.short1();
        y.drop(0, 0);
        EXPECT.fails("way(-1) after drop", IllegalStateException.class, () -> y.way(-1));
        EXPECT.fails("way(-1) for ever", IllegalStateException.class, () -> Machines.toAndFro().way(-1));
    }

    private static void wayIsSolution() {
        PostChain[] machines = {Machines.leftAtEnd(), Machines.leftInside(), Machines.short1(),
            Machines.found59(), Machines.way60()};
        for (PostChain x : machines) {
            x.layWay();
            EXPECT.same("a way is a solution", x.tray(), 2);
            EXPECT.same("a way goes through the steps", x.back(), x.steps());
        }
    }
}
