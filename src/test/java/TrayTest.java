import java.util.List;
import java.util.function.Supplier;

/** Promises 11 to 15 (lay, layWay, clear, tray, back): a sentence above each test. */
public final class TrayTest {
    private static final Expect EXPECT = new Expect("TrayTest");

    public static void main(String[] args) {
        layCounts();
        layNoneSuch();
        laySixty();
        layWayCounts();
        layWaySixty();
        layWayMore();
        layWayOfNoHalt();
        clearEmptiesBoth();
        clearOfEmpty();
        emptyTrayFits();
        fitsByBeginning();
        fitsNot();
        solutionFromDomino0();
        longestWords();
        wayIsSolution();
        backOfNoSolution();
        backUntilFirstHalt();
        backBeyondTheRun();
        EXPECT.end();
    }

    /** "Domino d is laid at the end of the tray: how many there are." */
    private static void layCounts() {
        PostChain x = Machines.short1();
        EXPECT.same("lay(0)", x.lay(0), 1);
        EXPECT.same("lay(13), the last", x.lay(13), 2);
        EXPECT.same("lay(13) again", x.lay(13), 3);
        x.clear();
        Ask.lay(x, 2, 3, 4);
        Ask.type(x, "012");
        EXPECT.same("at the end", x.trees(), 2);
    }

    /** "NONE if there is none such" */
    private static void layNoneSuch() {
        PostChain x = Machines.short1();
        for (int d : new int[] {14, 15, -1, -2, Integer.MIN_VALUE, Integer.MAX_VALUE}) {
            EXPECT.none("lay(" + d + ")", x.lay(d));
        }
        EXPECT.same("lay(0) behind refused ones", x.lay(0), 1);
        x.drop(0, 0);
        EXPECT.none("lay(12) where there are 12", x.lay(12));
        EXPECT.same("lay(11) where there are 12", x.lay(11), 1);
    }

    /** "or there are 60" and "THE TRAY is a row of at most 60 dominoes" */
    private static void laySixty() {
        PostChain x = new PostChain();
        for (int i = 1; i <= 60; i++) {
            EXPECT.same("lay " + i, x.lay(2), i);
        }
        EXPECT.none("lay 61", x.lay(2));
        EXPECT.none("lay of none, at 60", x.lay(99));
        Ask.type(x, "0".repeat(60));
        EXPECT.same("the 60 still lie", x.trees(), 2);
        x.clear();
        EXPECT.same("lay after clear", x.lay(2), 1);
    }

    /** "The tray becomes the WAY OF THE RUN, if that has at most 60 dominoes: how many it has" */
    private static void layWayCounts() {
        PostChain x = Machines.short1();
        Ask.lay(x, 1, 1, 1, 1, 1, 1, 1);
        Ask.type(x, "#a#1h#h##");
        EXPECT.same("layWay", x.layWay(), 5);
        EXPECT.same("in place of what lay there", x.tray(), 2);
        EXPECT.same("the text is as it was", x.trees(), 2);
        EXPECT.same("layWay twice", x.layWay(), 5);
        EXPECT.same("lay behind the way", x.lay(1), 6);
        EXPECT.same("the way is as it was", x.way(-1), 5);
        EXPECT.none("way(5)", x.way(5));
    }

    /** "if that has at most 60 dominoes": just 60. */
    private static void layWaySixty() {
        PostChain x = Machines.way60();
        for (int i = 0; i < 60; i++) {
            x.lay(1);
        }
        EXPECT.same("layWay of 60, on a full tray", x.layWay(), 60);
        EXPECT.same("tray", x.tray(), 2);
        EXPECT.none("no room behind 60", x.lay(0));
    }

    /** "NONE if it has more" */
    private static void layWayMore() {
        List<Supplier<PostChain>> machines = List.of(Machines::way61, Machines::longest);
        for (Supplier<PostChain> machine : machines) {
            PostChain x = machine.get();
            EXPECT.none("layWay of more", x.layWay());
            EXPECT.same("the tray is empty as before", x.lay(1), 1);
            Ask.type(x, "#");
            EXPECT.none("layWay of more", x.layWay());
            EXPECT.same("tray and text are as before", x.trees(), 2);
            EXPECT.same("the tray is as long as before", x.lay(1), 2);
        }
    }

    /** "IllegalStateException if the RUN does not HALT." */
    private static void layWayOfNoHalt() {
        PostChain[] machines = {new PostChain(), Machines.toAndFro(), Machines.thirteenth()};
        for (PostChain x : machines) {
            Ask.lay(x, 1, 1);
            EXPECT.fails("layWay", IllegalStateException.class, x::layWay);
            EXPECT.same("the tray is as it was", x.lay(1), 3);
        }
        PostChain dropped = Machines.short1();
        dropped.layWay();
        dropped.drop(0, 0);
        EXPECT.fails("layWay after drop", IllegalStateException.class, dropped::layWay);
    }

    /** "The tray and the text become empty." */
    private static void clearEmptiesBoth() {
        PostChain x = Machines.found59();
        x.search(400);
        Ask.type(x, "#");
        x.clear();
        EXPECT.same("clear: tray", x.tray(), 1);
        EXPECT.same("clear: lay", x.lay(1), 1);
        Ask.type(x, "#");
        EXPECT.same("clear: text", x.trees(), 2);
        EXPECT.same("clear leaves looked", x.looked(), 59);
        EXPECT.same("clear leaves the machine", Ask.run(x), "a 1b a11 0h1");
    }

    /** "The tray and the text become empty.": if they are so already, or full. */
    private static void clearOfEmpty() {
        PostChain x = new PostChain();
        x.clear();
        x.clear();
        EXPECT.same("clear of empty ones", x.lay(2), 1);
        for (int i = 0; i < 59; i++) {
            x.lay(2);
        }
        Ask.type(x, "0".repeat(60));
        x.clear();
        EXPECT.same("clear of full ones: lay", x.lay(2), 1);
        EXPECT.yes("clear of full ones: type", x.type('0'));
        EXPECT.same("clear of full ones: trees", x.trees(), 2);
    }

    /** Lays a row in place of what lies there. */
    private static void trays(String name, PostChain x, int due, int... numbers) {
        x.clear();
        Ask.lay(x, numbers);
        EXPECT.same(name, x.tray(), due);
        EXPECT.same(name + ": back is NONE", x.back() == -1 ? 1 : 0, due == 2 ? 0 : 1);
    }

    /** "(an empty one FITS)" */
    private static void emptyTrayFits() {
        PostChain x = Machines.short1();
        trays("of a new object", x, 1);
        x.layWay();
        trays("of a solution, cleared", x, 1);
        x.layWay();
        x.input(0, 0);
        EXPECT.same("of a solution, and a change", x.tray(), 1);
    }

    // The dominoes of short1: 5 a0/1h, 6 a#/1h#, 7 .. 9 sh/h, 10 .. 12 hs/h, 13 h##/#.

    /** "It FITS if one of its words is a beginning of the other one": and the row does. */
    private static void fitsByBeginning() {
        PostChain x = Machines.short1();
        trays("the lower word is longer", x, 1, 0);
        trays("the lower word goes on", x, 1, 0, 6);
        trays("the upper word is longer", x, 1, 10);
        trays("the upper word goes on", x, 1, 10, 2, 2);
        trays("the words are the same", x, 1, 1, 2, 3, 4);
        trays("one domino of one character", x, 1, 1);
    }

    /** "0 if the tray does not FIT" */
    private static void fitsNot() {
        PostChain x = Machines.short1();
        trays("wrong in the first character", x, 0, 13);
        trays("wrong in the first character, of the same length", x, 0, 5);
        trays("wrong in the second character", x, 0, 0, 1);
        trays("wrong in the second character, by a longer text", x, 0, 0, 13);
        trays("wrong in the last shared character", x, 0, 0, 5);
        trays("a wrong one stays wrong", x, 0, 0, 1, 1);
        trays("the last character alone is wrong", x, 0, 0, 6, 8, 1, 10);
        trays("the same words, but for the upper one's end", x, 0, 0, 6, 8, 1, 13, 7);
    }

    /** "it is a SOLUTION if it begins with domino 0 and its two words are the same" */
    private static void solutionFromDomino0() {
        PostChain x = Machines.short1();
        trays("the way but for its end", x, 1, 0, 6, 8, 1);
        trays("the way", x, 2, 0, 6, 8, 1, 13);
        trays("the way and a copy", x, 2, 0, 6, 8, 1, 13, 3);
        trays("the way twice", x, 2, 0, 6, 8, 1, 13, 0, 6, 8, 1, 13);
        trays("the way, and domino 0", x, 1, 0, 6, 8, 1, 13, 0);
        trays("a copy and the way: not from domino 0 on", x, 1, 1, 0, 6, 8, 1, 13);
        trays("copies alone: not from domino 0 on", x, 1, 1, 1);
        trays("a copy in place of domino 0", x, 0, 1, 6, 8, 1, 13);
    }

    /** Words of 60 dominoes are compared to their ends. */
    private static void longestWords() {
        PostChain x = Machines.short1();
        for (int i = 0; i < 12; i++) {
            Ask.lay(x, 0, 6, 8, 1, 13);
        }
        EXPECT.none("the tray is full", x.lay(0));
        EXPECT.same("the way twelve times", x.tray(), 2);
        x.clear();
        for (int i = 0; i < 11; i++) {
            Ask.lay(x, 0, 6, 8, 1, 13);
        }
        Ask.lay(x, 0, 6, 8, 1, 1);
        EXPECT.same("and a wrong last one", x.tray(), 0);
        PostChain zeros = new PostChain();
        zeros.input(4, 0);
        for (int i = 0; i < 60; i++) {
            zeros.lay(0);
        }
        EXPECT.same("60 times domino 0", zeros.tray(), 0);
        PostChain copies = new PostChain();
        for (int i = 0; i < 59; i++) {
            copies.lay(2);
        }
        EXPECT.same("59 copies", copies.tray(), 1);
        copies.lay(5);
        EXPECT.same("and a wrong last one", copies.tray(), 0);
    }

    /** "2 if it is a SOLUTION": each way that the tray can hold is one, and goes through the run's steps. */
    private static void wayIsSolution() {
        for (var machine : Machines.halting()) {
            PostChain x = machine.get();
            if (x.layWay() > 0) {
                EXPECT.same("a way is a solution", x.tray(), 2);
                EXPECT.same("a way goes through the steps", x.back(), x.steps());
            }
        }
    }

    /** "NONE if it is no SOLUTION" */
    private static void backOfNoSolution() {
        PostChain x = Machines.short1();
        EXPECT.none("back of an empty tray", x.back());
        x.lay(0);
        EXPECT.none("back of a row that fits", x.back());
        x.lay(1);
        EXPECT.none("back of a row that does not fit", x.back());
        x.clear();
        x.lay(1);
        EXPECT.none("back of the same words", x.back());
        x.layWay();
        x.lay(0);
        EXPECT.none("back of a solution and one more", x.back());
    }

    /** "how often # stands in its upper word (but for the first one) until h stands in it for the first time" */
    private static void backUntilFirstHalt() {
        PostChain x = Machines.short1();
        x.layWay();
        EXPECT.same("one step, the fewest", x.back(), 1);
        Ask.lay(x, 0, 6, 8, 1, 13);
        EXPECT.same("only until the first h", x.back(), 1);
        EXPECT.same("back leaves the tray", x.tray(), 2);
        PostChain y = Machines.leftAtEnd();
        y.layWay();
        EXPECT.same("three steps", y.back(), 3);
        y.lay(3);
        EXPECT.same("with a copy behind", y.back(), 3);
        y.lay(1);
        EXPECT.same("with a # behind", y.back(), 3);
    }

    /** "The machine's steps that a SOLUTION on the tray goes through": also where the RUN ends before. */
    private static void backBeyondTheRun() {
        PostChain x = Machines.thirteenth();
        Ask.lay(x, 0, 5, 4, 1, 4, 16, 1, 4, 13, 4, 5, 2, 1, 4, 11, 1, 8, 2, 1, 16, 4, 2, 1, 3, 16, 2, 1,
                3, 10, 1, 3, 5, 2, 1, 3, 11, 1, 7, 2, 1, 15, 4, 2, 1, 18, 4, 2, 1, 22, 2, 1, 20, 1, 23);
        EXPECT.no("the run does not halt", x.halts());
        EXPECT.same("but there is a solution", x.tray(), 2);
        EXPECT.same("of a step more than a run may have", x.back(), 13);
    }
}
