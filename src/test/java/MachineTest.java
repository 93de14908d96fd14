/** Promises 1 to 7: a new object, rule, drop, input, steps, halts, run. */
public final class MachineTest {
    private static final Expect EXPECT = new Expect("MachineTest");

    public static void main(String[] args) {
        newObject();
        ruleAnswers();
        ruleRefuses();
        changeEmptiesAll();
        noChangeKeepsAll();
        dropAnswers();
        inputDigits();
        inputRefuses();
        stepsOfRules();
        noStep();
        bounds();
        runOutside();
        objectsApart();
        EXPECT.end();
    }

    private static void newObject() {
        PostChain x = new PostChain();
        EXPECT.same("new: run", Ask.run(x), "a");
        EXPECT.same("new: steps", x.steps(), 0);
        EXPECT.no("new: halts", x.halts());
        EXPECT.same("new: dominoes", x.dominoes(), 12);
        EXPECT.same("new: tray", x.tray(), 1);
        EXPECT.same("new: trees", x.trees(), 0);
        EXPECT.same("new: looked", x.looked(), -1);
        EXPECT.same("new: lay", x.lay(1), 1);
        for (int i = 0; i < 12; i++) {
            EXPECT.no("new: drop", x.drop(i / 3, i % 3));
        }
        EXPECT.same("NONE", PostChain.NONE, -1);
    }

    private static void ruleAnswers() {
        PostChain x = new PostChain();
        // The very first values a rule could be thought to have already are a change too.
        EXPECT.yes("first rule", x.rule(0, 0, 0, false, 0));
        EXPECT.no("same rule", x.rule(0, 0, 0, false, 0));
        EXPECT.yes("other write", x.rule(0, 0, 1, false, 0));
        EXPECT.yes("other way", x.rule(0, 0, 1, true, 0));
        EXPECT.yes("other next", x.rule(0, 0, 1, true, 1));
        EXPECT.no("same rule again", x.rule(0, 0, 1, true, 1));
        EXPECT.yes("last state and symbol", x.rule(3, 2, 2, true, 4));
        EXPECT.no("both stand", x.rule(0, 0, 1, true, 1));
        EXPECT.yes("dropped", x.drop(0, 0));
        EXPECT.yes("the dropped rule again", x.rule(0, 0, 1, true, 1));
    }

    private static void ruleRefuses() {
        PostChain x = Machines.short1();
        refuse(x, -1, 0, 0, 0);
        refuse(x, 4, 0, 0, 0);
        refuse(x, 0, -1, 0, 0);
        refuse(x, 0, 3, 0, 0);
        refuse(x, 0, 0, -1, 0);
        refuse(x, 0, 0, 3, 0);
        refuse(x, 0, 0, 0, -1);
        refuse(x, 0, 0, 0, 5);
        refuse(x, Integer.MIN_VALUE, 0, 0, 0);
        refuse(x, Integer.MAX_VALUE, 0, 0, 0);
        refuse(x, 0, Integer.MAX_VALUE, 0, 0);
        // A pair that names a place in the row of rules is still none such.
        refuse(x, 1, -1, 0, 0);
        refuse(x, -1, 3, 0, 0);
        EXPECT.same("run after refused rules", Ask.run(x), "a 1h");
    }

    private static void refuse(PostChain x, int state, int symbol, int write, int next) {
        EXPECT.fails("rule(" + state + ", " + symbol + ", " + write + ", true, " + next + ")",
                IllegalArgumentException.class, () -> x.rule(state, symbol, write, true, next));
    }

    private static void refuseDrop(PostChain x, int state, int symbol) {
        EXPECT.fails("drop(" + state + ", " + symbol + ")",
                IllegalArgumentException.class, () -> x.drop(state, symbol));
    }

    private static void refuseInput(PostChain x, int n, int word) {
        EXPECT.fails("input(" + n + ", " + word + ")",
                IllegalArgumentException.class, () -> x.input(n, word));
    }

    /** Lays and types the row (#, #), which has two trees, and looks for a row. */
    private static void fillAll(PostChain x) {
        x.clear();
        x.search(3);
        x.clear();
        x.lay(1);
        Ask.type(x, "#");
    }

    private static void checkAll(String when, PostChain x, boolean empty) {
        EXPECT.same(when + ": trees", x.trees(), empty ? 0 : 2);
        EXPECT.same(when + ": looked", x.looked(), empty ? -1 : 3);
        EXPECT.same(when + ": lay", x.lay(1), empty ? 1 : 2);
        Ask.type(x, "#");
        EXPECT.same(when + ": trees of what was added", x.trees(), 2);
    }

    private static void changeEmptiesAll() {
        PostChain x = Machines.toAndFro();
        fillAll(x);
        checkAll("before", x, false);
        x.rule(0, 0, 0, true, 2);
        checkAll("a rule changed", x, true);
        x.rule(0, 0, 0, true, 1);
        fillAll(x);
        x.rule(2, 2, 0, true, 2);
        checkAll("a rule came", x, true);
        fillAll(x);
        x.drop(2, 2);
        checkAll("a rule went", x, true);
        fillAll(x);
        x.input(2, 0);
        checkAll("the same input", x, true);
    }

    private static void noChangeKeepsAll() {
        PostChain x = Machines.toAndFro();
        fillAll(x);
        x.rule(0, 0, 0, true, 1);
        x.drop(3, 2);
        refuse(x, 4, 0, 0, 0);
        refuseDrop(x, 4, 0);
        refuseInput(x, 5, 0);
        checkAll("nothing changed", x, false);
    }

    private static void dropAnswers() {
        PostChain x = Machines.leftAtEnd();
        EXPECT.yes("drop", x.drop(0, 2));
        EXPECT.no("drop again", x.drop(0, 2));
        EXPECT.no("drop of none", x.drop(3, 0));
        EXPECT.same("run after drop", Ask.run(x), "a12 2a2");
        EXPECT.same("dominoes after drop", x.dominoes(), 19);
        refuseDrop(x, -1, 0);
        refuseDrop(x, 4, 0);
        refuseDrop(x, 0, -1);
        refuseDrop(x, 0, 3);
        refuseDrop(x, 1, -1);
        refuseDrop(x, Integer.MIN_VALUE, Integer.MIN_VALUE);
        EXPECT.yes("the other rules stand", x.drop(0, 1));
    }

    private static void inputDigits() {
        inputReads(0, 0, "a");
        inputReads(0, Integer.MAX_VALUE, "a");
        inputReads(1, 1, "a1");
        inputReads(1, 5, "a2");
        inputReads(2, 1, "a01");
        inputReads(3, 17, "a122");
        inputReads(4, 80, "a2222");
        inputReads(4, 81, "a0000");
        inputReads(4, 32, "a1012");
        inputReads(4, 33 + 81, "a1020");
        // 2147483647 ends in 2101 in base 3.
        inputReads(4, Integer.MAX_VALUE, "a2101");
    }

    private static void inputReads(int n, int word, String due) {
        PostChain x = new PostChain();
        x.input(3, 5);
        EXPECT.yes("input(" + n + ", " + word + ")", x.input(n, word));
        EXPECT.yes("the same again", x.input(n, word));
        EXPECT.same("run after input(" + n + ", " + word + ")", Ask.run(x), due);
    }

    private static void inputRefuses() {
        PostChain x = new PostChain();
        x.input(2, 5);
        refuseInput(x, -1, 0);
        refuseInput(x, 5, 0);
        refuseInput(x, 0, -1);
        refuseInput(x, 4, Integer.MIN_VALUE);
        refuseInput(x, Integer.MAX_VALUE, 1);
        refuseInput(x, Integer.MIN_VALUE, 1);
        EXPECT.same("run after refused inputs", Ask.run(x), "a12");
    }

    private static void stepsOfRules() {
        runs("left at the end", Machines.leftAtEnd(), "a12 2a2 21b 2h10", true);
        runs("left inside", Machines.leftInside(), "a12 0a2 b01 2h1", true);
        runs("right at the end", Machines.short1(), "a 1h", true);
        runs("both", Machines.found59(), "a 1b a11 0h1", true);
        PostChain x = Machines.short1();
        x.input(1, 0);
        runs("right over a blank that stands there", x, "a0 1h", true);
        PostChain states = new PostChain();
        states.input(4, 16);
        states.rule(0, 0, 2, true, 3);
        states.rule(3, 1, 0, true, 2);
        states.rule(2, 2, 1, true, 1);
        states.rule(1, 1, 1, false, 4);
        runs("all states", states, "a0121 2d121 20c21 201b1 20h11", true);
    }

    private static void runs(String name, PostChain x, String due, boolean halts) {
        EXPECT.same(name + ": run", Ask.run(x), due);
        EXPECT.same(name + ": steps", x.steps(), due.split(" ").length - 1);
        EXPECT.same(name + ": halts", x.halts() ? 1 : 0, halts ? 1 : 0);
    }

    private static void noStep() {
        PostChain left = new PostChain();
        left.rule(0, 0, 1, false, 4);
        runs("to the left from the left end", left, "a", false);
        left.input(2, 1);
        runs("to the left from the left end, with an input", left, "a01", false);
        PostChain none = new PostChain();
        none.input(1, 1);
        none.rule(0, 1, 2, true, 1);
        runs("no rule", none, "a1 2b", false);
        none.rule(1, 1, 2, true, 4);
        runs("a rule for another symbol", none, "a1 2b", false);
    }

    private static void bounds() {
        PostChain grows = new PostChain();
        grows.rule(0, 0, 2, true, 0);
        runs("ten characters", grows,
                "a 2a 22a 222a 2222a 22222a 222222a 2222222a 22222222a 222222222a", false);
        runs("twelve steps", Machines.toAndFro(),
                "a00 0b0 a00 0b0 a00 0b0 a00 0b0 a00 0b0 a00 0b0 a00", false);
        PostChain twelfth = new PostChain();
        twelfth.input(4, 13);
        twelfth.rule(0, 0, 2, true, 2);
        twelfth.rule(1, 0, 0, true, 4);
        twelfth.rule(1, 2, 2, true, 0);
        twelfth.rule(2, 0, 0, true, 1);
        twelfth.rule(2, 1, 0, false, 1);
        runs("halts by the twelfth step", twelfth,
                "a0111 2c111 b2011 2a011 22c11 2b201 22a01 222c1 22b20 222a0 2222c 22220b 222200h", true);
        PostChain thirteenth = new PostChain();
        thirteenth.input(4, 7);
        thirteenth.rule(0, 0, 2, true, 1);
        thirteenth.rule(0, 2, 0, false, 4);
        thirteenth.rule(1, 0, 2, false, 1);
        thirteenth.rule(1, 1, 1, true, 0);
        thirteenth.rule(1, 2, 1, true, 1);
        runs("would halt by the thirteenth step", thirteenth,
                "a0021 2b021 b2221 1b221 11b21 111b1 1111a 11112b 1111b22 11111b2 111111b 11111b12 111111a2",
                false);
    }

    private static void runOutside() {
        PostChain x = Machines.leftAtEnd();
        EXPECT.same("run(3, -1)", x.run(3, -1), 4);
        EXPECT.same("run(3, 3)", x.run(3, 3), '0');
        EXPECT.same("run(3, 4)", x.run(3, 4), -1);
        EXPECT.same("run(4, -1)", x.run(4, -1), -1);
        EXPECT.same("run(4, 0)", x.run(4, 0), -1);
        EXPECT.same("run(-1, 0)", x.run(-1, 0), -1);
        EXPECT.same("run(-1, -1)", x.run(-1, -1), -1);
        EXPECT.same("run(0, -2)", x.run(0, -2), -1);
        EXPECT.same("run(0, MIN)", x.run(0, Integer.MIN_VALUE), -1);
        EXPECT.same("run(0, MAX)", x.run(0, Integer.MAX_VALUE), -1);
        EXPECT.same("run(MAX, -1)", x.run(Integer.MAX_VALUE, -1), -1);
        EXPECT.same("run(MIN, -1)", x.run(Integer.MIN_VALUE, -1), -1);
        PostChain longRun = Machines.toAndFro();
        EXPECT.same("run(12, -1)", longRun.run(12, -1), 3);
        EXPECT.same("run(13, -1)", longRun.run(13, -1), -1);
        // What a longer run has left behind is not part of a shorter one.
        longRun.drop(0, 0);
        EXPECT.same("run(1, -1) of a shorter run", longRun.run(1, -1), -1);
    }

    private static void objectsApart() {
        PostChain x = Machines.short1();
        PostChain y = new PostChain();
        y.input(1, 2);
        EXPECT.same("one object", Ask.run(x), "a 1h");
        EXPECT.same("another object", Ask.run(y), "a2");
    }
}
