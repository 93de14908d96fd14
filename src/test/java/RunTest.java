/** Promises 5 to 7 (steps, halts, run), with the STEP and the RUN: a sentence above each test. */
public final class RunTest {
    private static final Expect EXPECT = new Expect("RunTest");

    public static void main(String[] args) {
        firstConfiguration();
        symbolUnderHead();
        toTheRight();
        leftPartEmpty();
        toTheLeft();
        noRule();
        inHalt();
        neverShorter();
        twelveSteps();
        tenCharacters();
        haltsByLast();
        stepsOfNone();
        runLength();
        runNoneSuch();
        EXPECT.end();
    }

    private static void runs(String name, PostChain x, String due, boolean halts) {
        EXPECT.same(name + ": run", Ask.run(x), due);
        EXPECT.same(name + ": steps", x.steps(), due.split(" ").length - 1);
        EXPECT.same(name + ": halts", x.halts() ? 1 : 0, halts ? 1 : 0);
    }

    /** "The first one is a and then the input." */
    private static void firstConfiguration() {
        PostChain x = new PostChain();
        runs("an empty input", x, "a", false);
        x.input(1, 0);
        runs("a blank is a symbol too", x, "a0", false);
        x.input(4, 32);
        runs("the longest input", x, "a1012", false);
        x.input(0, 7);
        runs("an empty input again", x, "a", false);
    }

    /** "the symbol s under the head is the one behind the state, or 0 if there is none" */
    private static void symbolUnderHead() {
        PostChain x = new PostChain();
        x.rule(0, 0, 2, true, 4);
        runs("none behind the state", x, "a 2h", true);
        x.input(1, 0);
        runs("a 0 behind the state", x, "a0 2h", true);
        x.input(1, 1);
        runs("a 1 behind the state", x, "a1", false);
        x.input(2, 7);
        x.rule(0, 2, 0, true, 1);
        x.rule(1, 1, 0, true, 4);
        runs("not the one ahead of the state", x, "a21 0b1 00h", true);
    }

    /** "to the right: s (if it stands there) goes, w comes to the end of the left part, and the state is n" */
    private static void toTheRight() {
        runs("at the end", Machines.short1(), "a 1h", true);
        PostChain x = Machines.short1();
        x.input(2, 2);
        runs("inside", x, "a02 1h2", true);
        PostChain states = new PostChain();
        states.input(4, 16);
        states.rule(0, 0, 2, true, 3);
        states.rule(3, 1, 0, true, 2);
        states.rule(2, 2, 1, true, 1);
        states.rule(1, 1, 1, true, 4);
        runs("all states", states, "a0121 2d121 20c21 201b1 2011h", true);
    }

    /** "To the left: if the left part is empty, there is no step" */
    private static void leftPartEmpty() {
        PostChain x = new PostChain();
        x.rule(0, 0, 1, false, 4);
        runs("nothing behind the state", x, "a", false);
        x.input(2, 1);
        runs("an input behind the state", x, "a01", false);
        PostChain back = new PostChain();
        back.input(2, 0);
        back.rule(0, 0, 0, true, 1);
        back.rule(1, 0, 2, false, 2);
        back.rule(2, 0, 1, false, 4);
        runs("back at the left end", back, "a00 0b0 c02", false);
    }

    /** "otherwise its last symbol c leaves it, the state is n, and behind it stand c and w, in place of s" */
    private static void toTheLeft() {
        runs("s stands there", Machines.leftInside(), "a12 0a2 b01 2h1", true);
        runs("s does not stand there", Machines.leftAtEnd(), "a12 2a2 21b 2h10", true);
        runs("the left part becomes empty", Machines.found59(), "a 1b a11 0h1", true);
        PostChain x = new PostChain();
        x.input(4, 16);
        x.rule(0, 0, 2, true, 3);
        x.rule(3, 1, 0, true, 2);
        x.rule(2, 2, 1, false, 4);
        runs("symbols on both sides stay", x, "a0121 2d121 20c21 2h011", true);
    }

    /** "With no rule, or in HALT, there is no step.": no rule. */
    private static void noRule() {
        PostChain x = new PostChain();
        runs("no rule at all", x, "a", false);
        x.input(1, 1);
        x.rule(0, 1, 2, true, 1);
        runs("none for the state", x, "a1 2b", false);
        x.rule(1, 1, 2, true, 4);
        x.rule(1, 2, 2, true, 4);
        runs("none for the symbol", x, "a1 2b", false);
        x.rule(1, 0, 1, true, 4);
        runs("one for both", x, "a1 2b 21h", true);
        x.drop(0, 1);
        runs("the first one dropped", x, "a1", false);
    }

    /** "With no rule, or in HALT, there is no step.": in HALT. */
    private static void inHalt() {
        PostChain x = new PostChain();
        x.input(4, 40);
        for (int place = 0; place < 12; place++) {
            x.rule(place / 3, place % 3, 2, true, 1 + place / 3);
        }
        runs("all rules to the next state", x, "a1111 2b111 22c11 222d1 2222h", true);
        x.rule(0, 1, 2, true, 4);
        runs("HALT at once", x, "a1111 2h111", true);
    }

    /** "(The text never gets shorter.)" */
    private static void neverShorter() {
        for (var machine : Machines.halting()) {
            PostChain x = machine.get();
            for (int k = 1; k <= x.steps(); k++) {
                int more = x.run(k, -1) - x.run(k - 1, -1);
                EXPECT.yes("a step adds a character or none", more == 0 || more == 1);
            }
        }
    }

    /** "up to 12 steps" */
    private static void twelveSteps() {
        runs("for ever", Machines.toAndFro(),
                "a00 0b0 a00 0b0 a00 0b0 a00 0b0 a00 0b0 a00 0b0 a00", false);
        PostChain twelfth = new PostChain();
        twelfth.input(4, 13);
        twelfth.rule(0, 0, 2, true, 2);
        twelfth.rule(1, 0, 0, true, 4);
        twelfth.rule(1, 2, 2, true, 0);
        twelfth.rule(2, 0, 0, true, 1);
        twelfth.rule(2, 1, 0, false, 1);
        runs("halts by the twelfth step", twelfth,
                "a0111 2c111 b2011 2a011 22c11 2b201 22a01 222c1 22b20 222a0 2222c 22220b 222200h", true);
        runs("would halt by the thirteenth step", Machines.thirteenth(),
                "a12 2b2 21b 2a10 22b0 2a20 b220 1b20 11b0 1a10 12b0 1a20 b120", false);
    }

    /** "and texts of at most 10 characters" */
    private static void tenCharacters() {
        PostChain right = new PostChain();
        right.rule(0, 0, 2, true, 0);
        runs("would grow to 11 to the right", right,
                "a 2a 22a 222a 2222a 22222a 222222a 2222222a 22222222a 222222222a", false);
        right.input(4, 0);
        runs("would grow to 11 from an input", right,
                "a0000 2a000 22a00 222a0 2222a 22222a 222222a 2222222a 22222222a 222222222a", false);
        PostChain left = new PostChain();
        left.input(4, 40);
        left.rule(0, 1, 1, true, 0);
        left.rule(0, 0, 1, true, 1);
        left.rule(1, 0, 1, false, 2);
        left.rule(2, 1, 1, true, 2);
        left.rule(2, 0, 1, true, 3);
        left.rule(3, 0, 1, true, 0);
        runs("would grow to 11 to the left", left,
                "a1111 1a111 11a11 111a1 1111a 11111b 1111c11 11111c1 111111c 1111111d 11111111a 111111111b",
                false);
        runs("ten characters and twelve steps", Machines.longest(),
                "a1111 1a111 11a11 111a1 1111a 11111b 111111c 11111d11 111111d1 1111111d "
                + "11111112c 1111111d21 11111112h1", true);
    }

    /** "it HALTS if the last one of these is in HALT" */
    private static void haltsByLast() {
        PostChain x = Machines.leftAtEnd();
        EXPECT.yes("halts", x.halts());
        x.rule(1, 0, 0, false, 3);
        EXPECT.no("ends in another state", x.halts());
        x.rule(1, 0, 0, false, 4);
        EXPECT.yes("halts again", x.halts());
        x.input(1, 1);
        EXPECT.no("ends without a rule", x.halts());
        PostChain unused = Machines.toAndFro();
        unused.rule(3, 0, 0, true, 4);
        EXPECT.no("a rule into HALT that is not used", unused.halts());
    }

    /** "How many steps the RUN has.": none, and the most. */
    private static void stepsOfNone() {
        EXPECT.same("steps of a new object", new PostChain().steps(), 0);
        EXPECT.same("steps for ever", Machines.toAndFro().steps(), 12);
        EXPECT.same("steps of the longest run that halts", Machines.longest().steps(), 12);
    }

    /** "how many it has, if i is -1" */
    private static void runLength() {
        PostChain x = Machines.longest();
        EXPECT.same("run(0, -1)", x.run(0, -1), 5);
        EXPECT.same("run(5, -1)", x.run(5, -1), 6);
        EXPECT.same("run(12, -1)", x.run(12, -1), 10);
        EXPECT.same("run(12, 0)", x.run(12, 0), '1');
        EXPECT.same("run(12, 9)", x.run(12, 9), '1');
        EXPECT.same("run(12, 8)", x.run(12, 8), 'h');
    }

    /** "NONE if there is none such." */
    private static void runNoneSuch() {
        PostChain x = Machines.leftAtEnd();
        EXPECT.none("run(3, 4)", x.run(3, 4));
        EXPECT.none("run(0, 3)", x.run(0, 3));
        EXPECT.none("run(0, -2)", x.run(0, -2));
        EXPECT.none("run(0, MIN)", x.run(0, Integer.MIN_VALUE));
        EXPECT.none("run(0, MAX)", x.run(0, Integer.MAX_VALUE));
        for (int k : new int[] {4, -1, -2, 13, Integer.MAX_VALUE, Integer.MIN_VALUE}) {
            EXPECT.none("run(" + k + ", 0)", x.run(k, 0));
            EXPECT.none("run(" + k + ", -1)", x.run(k, -1));
        }
        PostChain longRun = Machines.longest();
        EXPECT.none("run(12, 10)", longRun.run(12, 10));
        EXPECT.none("run(13, -1)", longRun.run(13, -1));
        // What a longer run has left behind is not part of a shorter one.
        longRun.drop(0, 1);
        EXPECT.none("run(1, -1) of a shorter run", longRun.run(1, -1));
        EXPECT.none("run(1, 0) of a shorter run", longRun.run(1, 0));
    }
}
