/** Promises 18 and 19: search, looked. */
public final class SearchTest {
    private static final Expect EXPECT = new Expect("SearchTest");

    public static void main(String[] args) {
        noRules();
        found();
        fuelEdges();
        refusedFuel();
        mostDifference();
        orderOfRows();
        foundOfMost();
        foundBeyondMost();
        outLeavesTray();
        lookedForgets();
        EXPECT.end();
    }

    private static void looks(String name, PostChain x, int fuel, int due, int looked) {
        EXPECT.same(name + ": search(" + fuel + ")", x.search(fuel), due);
        EXPECT.same(name + ": looked", x.looked(), looked);
    }

    private static void noRules() {
        PostChain x = new PostChain();
        EXPECT.same("looked before a search", x.looked(), -1);
        looks("no rules", x, 400, 0, 1);
        // The fuel is used up, but there is no row left: EMPTY, not OUT.
        looks("no rules", x, 1, 0, 1);
    }

    private static void found() {
        PostChain x = Machines.found59();
        x.lay(1);
        looks("found", x, 400, 1, 59);
        EXPECT.same("found: tray", x.tray(), 2);
        EXPECT.same("found: back", x.back(), 3);
        EXPECT.same("found: lay", x.lay(1), 13);
        looks("the same again", x, 400, 1, 59);
        EXPECT.same("found again: lay", x.lay(1), 13);
    }

    private static void fuelEdges() {
        PostChain x = Machines.found59();
        looks("just enough", x, 59, 1, 59);
        x.clear();
        looks("one too few", x, 58, 2, 58);
        looks("the least", x, 1, 2, 1);
        EXPECT.same("out: tray", x.lay(1), 1);
        // #/#a#, then a#/1b#, then 1/1 or 1b#/a11#: no row goes on from these.
        x.drop(0, 1);
        looks("empty", x, 400, 0, 4);
        looks("just enough to be empty", x, 4, 0, 4);
        looks("one too few to be empty", x, 3, 2, 3);
    }

    private static void refusedFuel() {
        PostChain x = Machines.found59();
        x.lay(1);
        int[] none = {0, -1, 401, Integer.MIN_VALUE, Integer.MAX_VALUE};
        for (int fuel : none) {
            EXPECT.same("search(" + fuel + ")", x.search(fuel), -1);
            EXPECT.same("looked after it", x.looked(), -1);
        }
        EXPECT.same("search(3)", x.search(3), 2);
        for (int fuel : none) {
            EXPECT.same("search(" + fuel + ")", x.search(fuel), -1);
            EXPECT.same("looked as before", x.looked(), 3);
        }
        EXPECT.same("the tray as before", x.lay(1), 2);
    }

    /**
     * The rows 0 5 4 4 4, then 0 or 1 for #, then 3, and nothing starts with b. With 0 in place of #
     * the lower word is ahead by 12, and the row with 3 behind it is looked at too.
     */
    private static void mostDifference() {
        PostChain x = new PostChain();
        x.input(4, 80);
        x.rule(0, 2, 1, true, 1);
        looks("ahead by 12", x, 400, 0, 9);
        // From 2..2a# on, j twos, j copies and a#/2a# follow, and the lower word is then ahead by j + 3.
        // The row of j = 10 is looked at, being ahead by 13, and is the last: 1 + (1 + .. + 11) rows.
        PostChain y = new PostChain();
        y.rule(0, 0, 2, true, 0);
        looks("ahead by 13", y, 400, 0, 67);
    }

    /** Of 0h1# h1# h# and 0h1# 0h# h#, both of 12 dominoes, the latter begins to differ by 0/0, not 0h/h. */
    private static void orderOfRows() {
        PostChain x = Machines.found59();
        Ask.type(x, "#a#1b#a11#0h1#0h#h##");
        x.search(400);
        EXPECT.same("the row with the least numbers", x.trees(), 2);
        x.layWay();
        EXPECT.same("not the way of the run", x.trees(), 0);
        EXPECT.same("but as long", x.way(-1), 12);
    }

    private static void foundOfMost() {
        PostChain x = Machines.way60();
        x.lay(1);
        looks("a row of 60", x, 400, 1, 214);
        EXPECT.same("a row of 60: tray", x.tray(), 2);
        EXPECT.same("a row of 60: no room", x.lay(1), -1);
        EXPECT.same("a row of 60: back", x.back(), x.steps());
    }

    private static void foundBeyondMost() {
        PostChain x = Machines.way61();
        Ask.lay(x, 1, 1);
        EXPECT.same("a row of 61", x.search(400), 1);
        EXPECT.same("a row of 61: the tray as before", x.lay(1), 3);
    }

    private static void outLeavesTray() {
        PostChain x = Machines.toAndFro();
        Ask.lay(x, 1, 1);
        Ask.type(x, "##");
        looks("out", x, 400, 2, 400);
        EXPECT.same("out: tray and text", x.trees(), 2);
    }

    private static void lookedForgets() {
        PostChain x = Machines.found59();
        x.search(7);
        x.rule(3, 0, 0, true, 0);
        EXPECT.same("looked after a rule", x.looked(), -1);
        x.search(7);
        x.rule(3, 0, 0, true, 0);
        EXPECT.same("looked after no change", x.looked(), 7);
        x.drop(3, 0);
        EXPECT.same("looked after drop", x.looked(), -1);
        x.search(7);
        x.clear();
        EXPECT.same("looked after clear", x.looked(), 7);
        x.input(0, 0);
        EXPECT.same("looked after the same input", x.looked(), -1);
    }
}
