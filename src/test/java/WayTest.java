/** Promise 10 (way), with the WAY OF THE RUN: a sentence above each test. */
public final class WayTest {
    private static final Expect EXPECT = new Expect("WayTest");

    public static void main(String[] args) {
        replacedInside();
        replacedAtEnd();
        hashReplaced();
        symbolAheadOfHalt();
        symbolBehindHalt();
        haltAlone();
        wayAfterChange();
        wayReadsTheRun();
        wayLength();
        wayNoneSuch();
        wayOfNoHalt();
        EXPECT.end();
    }

    /** "in the place of those that a rule's domino replaces (c q s, q s": s stands there. */
    private static void replacedInside() {
        EXPECT.same("left inside", Ask.way(Machines.leftInside()),
                "#/#a12# a1/0a 2/2 #/# 0a2/b01 #/# b0/2h 1/1 #/# 2h/h 1/1 #/# h1/h #/# h##/#");
        PostChain blank = new PostChain();
        blank.input(2, 0);
        blank.rule(0, 0, 2, true, 1);
        blank.rule(1, 0, 1, false, 4);
        EXPECT.same("a blank that stands there", Ask.way(blank),
                "#/#a00# a0/2b 0/0 #/# 2b0/h21 #/# h2/h 1/1 #/# h1/h #/# h##/#");
    }

    /** "or at the end c q # or q #" */
    private static void replacedAtEnd() {
        EXPECT.same("q #", Ask.way(Machines.short1()), "#/#a# a#/1h# 1h/h #/# h##/#");
        EXPECT.same("c q #", Ask.way(Machines.leftAtEnd()),
                "#/#a12# a1/2a 2/2 #/# 2/2 a2/1b #/# 2/2 1b#/h10# "
                + "2h/h 1/1 0/0 #/# h1/h 0/0 #/# h0/h #/# h##/#");
    }

    /** "then (#, #), if # was not replaced" */
    private static void hashReplaced() {
        EXPECT.same("replaced, replaced, not replaced", Ask.way(Machines.found59()),
                "#/#a# a#/1b# 1b#/a11# a1/0h 1/1 #/# 0h/h 1/1 #/# h1/h #/# h##/#");
        PostChain x = Machines.short1();
        x.input(1, 0);
        EXPECT.same("the last symbol replaced, but not the #", Ask.way(x),
                "#/#a0# a0/1h #/# 1h/h #/# h##/#");
    }

    /** "if there is a symbol s just ahead of h, those two become h by (s h, h)" */
    private static void symbolAheadOfHalt() {
        PostChain x = new PostChain();
        x.rule(0, 0, 0, true, 1);
        x.rule(1, 0, 1, true, 2);
        x.rule(2, 0, 2, true, 4);
        EXPECT.same("all symbols ahead", Ask.way(x),
                "#/#a# a#/0b# 0/0 b#/1c# 0/0 1/1 c#/2h# 0/0 1/1 2h/h #/# 0/0 1h/h #/# 0h/h #/# h##/#");
        EXPECT.same("the one ahead goes before the one behind", Ask.way(Machines.found59()),
                "#/#a# a#/1b# 1b#/a11# a1/0h 1/1 #/# 0h/h 1/1 #/# h1/h #/# h##/#");
    }

    /** "else h and the symbol behind it by (h s, h), the others by (s, s)" */
    private static void symbolBehindHalt() {
        PostChain x = new PostChain();
        x.input(4, 32);
        x.rule(0, 1, 1, true, 4);
        EXPECT.same("all symbols behind", Ask.way(x),
                "#/#a1012# a1/1h 0/0 1/1 2/2 #/# 1h/h 0/0 1/1 2/2 #/# "
                + "h0/h 1/1 2/2 #/# h1/h 2/2 #/# h2/h #/# h##/#");
    }

    /** "while the configuration, now with h, is longer than h alone" */
    private static void haltAlone() {
        PostChain x = new PostChain();
        x.input(1, 2);
        x.rule(0, 2, 0, true, 4);
        EXPECT.same("a symbol beside h", Ask.way(x), "#/#a2# a2/0h #/# 0h/h #/# h##/#");
        PostChain left = new PostChain();
        left.rule(0, 0, 1, true, 1);
        left.rule(1, 0, 2, false, 4);
        EXPECT.same("h at the left end", Ask.way(left),
                "#/#a# a#/1b# 1b#/h12# h1/h 2/2 #/# h2/h #/# h##/#");
    }

    private static void wayAfterChange() {
        PostChain x = Machines.short1();
        x.rule(0, 0, 2, true, 4);
        EXPECT.same("another rule", Ask.way(x), "#/#a# a#/2h# 2h/h #/# h##/#");
        x.input(1, 0);
        EXPECT.same("another input", Ask.way(x), "#/#a0# a0/2h #/# 2h/h #/# h##/#");
        x.rule(0, 1, 1, false, 0);
        EXPECT.same("more dominoes", Ask.way(x), "#/#a0# a0/2h #/# 2h/h #/# h##/#");
    }

    /** Both words of a way are the run and then the shorter and shorter configurations with h. */
    private static void wayReadsTheRun() {
        for (var machine : Machines.halting()) {
            String run = Ask.run(machine.get()).replace(' ', '#');
            StringBuilder upper = new StringBuilder();
            StringBuilder lower = new StringBuilder();
            for (String piece : Ask.way(machine.get()).split(" ")) {
                upper.append(piece.split("/")[0]);
                lower.append(piece.split("/")[1]);
            }
            EXPECT.same("the words of a way", upper.toString(), lower.toString());
            EXPECT.yes("a way begins with the run", upper.toString().startsWith("#" + run + "#"));
            EXPECT.yes("a way ends with h alone", upper.toString().endsWith("#h##"));
        }
    }

    /** "how many it has, if k is -1" */
    private static void wayLength() {
        EXPECT.same("the shortest way", Machines.short1().way(-1), 5);
        EXPECT.same("a way of 60", Machines.way60().way(-1), 60);
        PostChain longer = Machines.way61();
        EXPECT.same("a way of 61", longer.way(-1), 61);
        EXPECT.same("its last one", longer.way(60), longer.dominoes() - 1);
        EXPECT.none("none behind it", longer.way(61));
        PostChain longest = Machines.longest();
        // 1, then 5 5 5 5 5 6 6 8 8 8 8 10 for the steps, 10 9 .. 2 for h and the symbols beside it, and 1.
        EXPECT.same("the way of the longest run", longest.way(-1), 135);
        EXPECT.same("its last one", longest.way(134), longest.dominoes() - 1);
        EXPECT.none("none behind it", longest.way(135));
    }

    /** "NONE if there is none such." */
    private static void wayNoneSuch() {
        PostChain x = Machines.short1();
        EXPECT.same("way(0)", x.way(0), 0);
        EXPECT.same("way(4)", x.way(4), 13);
        for (int k : new int[] {5, 6, -2, Integer.MIN_VALUE, Integer.MAX_VALUE}) {
            EXPECT.none("way(" + k + ")", x.way(k));
        }
        // What a longer way has left behind is not part of a shorter one.
        PostChain y = Machines.leftAtEnd();
        y.input(1, 1);
        y.rule(0, 1, 2, true, 4);
        EXPECT.same("a shorter way", y.way(-1), 6);
        EXPECT.none("none behind it", y.way(6));
    }

    /** "IllegalStateException if the RUN does not HALT." */
    private static void wayOfNoHalt() {
        PostChain stuck = new PostChain();
        PostChain dropped = Machines.short1();
        dropped.drop(0, 0);
        PostChain[] machines = {stuck, dropped, Machines.toAndFro(), Machines.thirteenth()};
        for (PostChain x : machines) {
            // A number that no way has does not come first.
            for (int k : new int[] {-1, 0, -2, 500, Integer.MIN_VALUE, Integer.MAX_VALUE}) {
                EXPECT.fails("way(" + k + ")", IllegalStateException.class, () -> x.way(k));
            }
        }
    }
}
