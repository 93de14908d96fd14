/** Promises 18 and 19 (search, looked), with the SEARCH and its FUEL: a sentence above each test. */
public final class SearchTest {
    private static final Expect EXPECT = new Expect("SearchTest");

    public static void main(String[] args) {
        endsFound();
        endsEmpty();
        endsOut();
        mostFuelFound();
        mostFuelEmpty();
        emptyAsFuelEnds();
        fuelOutside();
        differenceOfTwelve();
        differenceOfMore();
        sameLengthInOrder();
        foundOfSixty();
        foundOfMore();
        trayWithoutFind();
        textStays();
        foundBeyondTheRun();
        lookedBefore();
        lookedLatest();
        lookedAfterChange();
        EXPECT.end();
    }

    private static void looks(String name, PostChain x, int fuel, int due, int looked) {
        EXPECT.same(name + ": search(" + fuel + ")", x.search(fuel), due);
        EXPECT.same(name + ": looked", x.looked(), looked);
    }

    /** "It ends when it looks at a SOLUTION (FOUND)" */
    private static void endsFound() {
        PostChain x = Machines.found59();
        x.lay(1);
        looks("found", x, 400, 1, 59);
        EXPECT.same("found: tray", x.tray(), 2);
        EXPECT.same("found: back", x.back(), 3);
        EXPECT.same("found: lay", x.lay(1), 13);
        looks("the same again", x, 400, 1, 59);
        EXPECT.same("found again: lay", x.lay(1), 13);
        x.clear();
        looks("found with just enough fuel", x, 59, 1, 59);
        EXPECT.same("found with just enough fuel: tray", x.tray(), 2);
    }

    /** "when there is no row left to look at (EMPTY)" */
    private static void endsEmpty() {
        looks("no rules", new PostChain(), 400, 0, 1);
        // #/#a#, then a#/1b#, then 1/1 or 1b#/a11#: no row goes on from these.
        PostChain x = Machines.found59();
        x.drop(0, 1);
        looks("empty", x, 400, 0, 4);
        looks("empty again", x, 5, 0, 4);
    }

    /** "or when there is one but FUEL is used up (OUT)" */
    private static void endsOut() {
        PostChain x = Machines.found59();
        looks("one too few to find it", x, 58, 2, 58);
        looks("the least fuel", x, 1, 2, 1);
        looks("for ever", Machines.toAndFro(), 400, 2, 400);
        x.drop(0, 1);
        looks("one too few to be empty", x, 3, 2, 3);
    }

    /** "FUEL": the most of it just does, or just does not. */
    private static void mostFuelFound() {
        PostChain x = new PostChain();
        x.input(3, 13);
        x.rule(0, 0, 1, true, 1);
        x.rule(0, 1, 2, true, 0);
        x.rule(0, 2, 2, true, 4);
        x.rule(1, 0, 2, false, 1);
        x.rule(1, 1, 1, true, 1);
        x.rule(1, 2, 2, false, 0);
        looks("found as the 400th", x, 400, 1, 400);
        x.clear();
        looks("one too few", x, 399, 2, 399);
        PostChain y = new PostChain();
        y.input(4, 76);
        y.rule(0, 0, 0, false, 4);
        y.rule(0, 1, 1, true, 1);
        y.rule(0, 2, 0, true, 0);
        y.rule(1, 0, 1, false, 1);
        y.rule(1, 1, 0, false, 0);
        looks("it would be the 401st", y, 400, 2, 400);
    }

    /** "when there is no row left to look at": just as the most fuel is used up, or one later. */
    private static void mostFuelEmpty() {
        PostChain x = new PostChain();
        x.input(3, 17);
        x.rule(0, 0, 2, false, 0);
        x.rule(0, 1, 0, true, 1);
        x.rule(1, 0, 0, true, 0);
        x.rule(1, 2, 1, true, 1);
        looks("400 rows", x, 400, 0, 400);
        looks("one too few", x, 399, 2, 399);
        PostChain y = new PostChain();
        y.input(4, 40);
        y.rule(0, 0, 2, false, 0);
        y.rule(0, 1, 1, true, 0);
        y.rule(0, 2, 1, false, 0);
        looks("401 rows", y, 400, 2, 400);
    }

    /** "when there is one but FUEL is used up": there is none, so it is EMPTY and not OUT. */
    private static void emptyAsFuelEnds() {
        looks("no rules", new PostChain(), 1, 0, 1);
        PostChain x = Machines.found59();
        x.drop(0, 1);
        looks("just enough to be empty", x, 4, 0, 4);
    }

    /** "NONE if fuel is not 1 .. 400" */
    private static void fuelOutside() {
        PostChain x = Machines.found59();
        x.lay(1);
        int[] none = {0, -1, 401, 402, Integer.MIN_VALUE, Integer.MAX_VALUE};
        for (int fuel : none) {
            EXPECT.none("search(" + fuel + ")", x.search(fuel));
            EXPECT.none("looked after it", x.looked());
        }
        EXPECT.same("search(3)", x.search(3), 2);
        for (int fuel : none) {
            EXPECT.none("search(" + fuel + ")", x.search(fuel));
            EXPECT.same("looked as before", x.looked(), 3);
        }
        EXPECT.same("the tray as before", x.lay(1), 2);
    }

    /**
     * "A row whose words differ in length by more than 12 is looked at": by just 12, rows go on from it.
     * These are the rows 0 5 4 4 4, then 0 or 1 for #, then 3, and nothing starts with b. With 0 in
     * place of #, the lower word is ahead by 12, and the row with 3 behind it is looked at too.
     */
    private static void differenceOfTwelve() {
        PostChain x = new PostChain();
        x.input(4, 80);
        x.rule(0, 2, 1, true, 1);
        looks("ahead by 12", x, 400, 0, 9);
    }

    /**
     * "but none that goes on from it". From 2..2a# on, j twos, j copies and a#/2a# follow, and the lower
     * word is then ahead by j + 3. The row of j = 10 is looked at, being ahead by 13, and is the last:
     * 1 + (1 + .. + 11) rows.
     */
    private static void differenceOfMore() {
        PostChain x = new PostChain();
        x.rule(0, 0, 2, true, 0);
        looks("ahead by 13", x, 400, 0, 67);
        looks("the last row is looked at too", x, 66, 2, 66);
    }

    /**
     * "of the same length by the first number in which they differ". Of 0h1# h1# h# and 0h1# 0h# h#,
     * both of 12 dominoes, the latter begins to differ by 0/0, not 0h/h.
     */
    private static void sameLengthInOrder() {
        PostChain x = Machines.found59();
        Ask.type(x, "#a#1b#a11#0h1#0h#h##");
        x.search(400);
        EXPECT.same("the row with the least numbers", x.trees(), 2);
        x.layWay();
        EXPECT.same("not the way of the run", x.trees(), 0);
        EXPECT.same("but as long", x.way(-1), 12);
    }

    /** "If it is FOUND, and it has at most 60 dominoes, the tray becomes it.": just 60. */
    private static void foundOfSixty() {
        PostChain x = Machines.way60();
        x.lay(1);
        looks("a row of 60", x, 400, 1, 214);
        EXPECT.same("a row of 60: tray", x.tray(), 2);
        EXPECT.none("a row of 60: no room", x.lay(1));
        EXPECT.same("a row of 60: back", x.back(), x.steps());
    }

    /** "and it has at most 60 dominoes": it has more, so the tray stays. */
    private static void foundOfMore() {
        PostChain x = Machines.way61();
        Ask.lay(x, 1, 1);
        Ask.type(x, "##");
        EXPECT.same("a row of 61", x.search(400), 1);
        EXPECT.yes("a row of 61: looked", x.looked() > 61);
        EXPECT.same("a row of 61: tray and text as before", x.trees(), 2);
        EXPECT.same("a row of 61: the tray is as long", x.lay(1), 3);
    }

    /** "If it is FOUND .. the tray becomes it": otherwise it stays. */
    private static void trayWithoutFind() {
        PostChain out = Machines.toAndFro();
        Ask.lay(out, 1, 1);
        Ask.type(out, "##");
        looks("out", out, 400, 2, 400);
        EXPECT.same("out: tray and text", out.trees(), 2);
        PostChain empty = new PostChain();
        Ask.lay(empty, 1, 1);
        Ask.type(empty, "##");
        looks("empty", empty, 400, 0, 1);
        EXPECT.same("empty: tray and text", empty.trees(), 2);
        PostChain full = Machines.found59();
        for (int i = 0; i < 60; i++) {
            full.lay(1);
        }
        looks("found on a full tray", full, 400, 1, 59);
        EXPECT.same("found on a full tray: lay", full.lay(1), 13);
    }

    /** "the tray becomes it": and nothing becomes of the text. */
    private static void textStays() {
        PostChain x = Machines.short1();
        Ask.type(x, "#a#1h#h##");
        EXPECT.same("found", x.search(400), 1);
        EXPECT.same("the text is as before", x.trees(), 2);
    }

    /** "It ends when it looks at a SOLUTION (FOUND)": also where the RUN does not HALT. */
    private static void foundBeyondTheRun() {
        PostChain x = new PostChain();
        x.input(4, 68);
        x.rule(0, 0, 1, false, 0);
        x.rule(0, 1, 1, true, 1);
        x.rule(0, 2, 0, true, 0);
        x.rule(1, 0, 1, true, 4);
        x.rule(1, 1, 2, true, 0);
        EXPECT.no("the run does not halt", x.halts());
        looks("found all the same", x, 400, 1, 275);
    }

    /** "NONE if there was none since a rule or the input changed": there was none at all. */
    private static void lookedBefore() {
        PostChain x = new PostChain();
        EXPECT.none("looked of a new object", x.looked());
        x.search(0);
        EXPECT.none("looked after a refused search", x.looked());
        x.lay(0);
        x.type('#');
        x.clear();
        EXPECT.none("looked after other calls", x.looked());
        x.search(1);
        EXPECT.same("looked after the least search", x.looked(), 1);
    }

    /** "How many rows the latest search looked at" */
    private static void lookedLatest() {
        PostChain x = Machines.found59();
        x.search(400);
        EXPECT.same("looked", x.looked(), 59);
        x.search(7);
        EXPECT.same("looked of a later, shorter search", x.looked(), 7);
        x.search(401);
        EXPECT.same("looked after a refused one", x.looked(), 7);
        x.clear();
        x.layWay();
        EXPECT.same("looked after other calls", x.looked(), 7);
        EXPECT.same("looked again", x.looked(), 7);
    }

    /** "since a rule or the input changed" */
    private static void lookedAfterChange() {
        PostChain x = Machines.found59();
        x.search(7);
        x.rule(3, 0, 0, true, 0);
        EXPECT.none("after a new rule", x.looked());
        x.search(7);
        x.rule(3, 0, 0, true, 0);
        x.drop(3, 1);
        EXPECT.same("after no change", x.looked(), 7);
        x.rule(3, 0, 0, true, 1);
        EXPECT.none("after another rule", x.looked());
        x.search(7);
        x.drop(3, 0);
        EXPECT.none("after drop", x.looked());
        x.search(7);
        x.input(0, 0);
        EXPECT.none("after the same input", x.looked());
    }
}
