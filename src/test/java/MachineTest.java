/** Promises 1 to 4 (a new object, rule, drop, input): a sentence of the document above each test. */
public final class MachineTest {
    private static final Expect EXPECT = new Expect("MachineTest");

    public static void main(String[] args) {
        newObject();
        rulesAtFirst();
        everyRule();
        ruleOfOtherPlace();
        ruleIsSoAlready();
        ruleNoneSuch();
        everyDrop();
        dropOfNone();
        dropNoneSuch();
        inputAtFirst();
        inputDigits();
        inputAgain();
        inputOutside();
        emptyAtFirst();
        emptyAfterChange();
        objectsApart();
        lastCall();
        EXPECT.end();
    }

    /** "No rules, an empty input." */
    private static void newObject() {
        PostChain x = new PostChain();
        EXPECT.same("new: run", Ask.run(x), "a");
        EXPECT.same("new: steps", x.steps(), 0);
        EXPECT.no("new: halts", x.halts());
        EXPECT.same("new: dominoes", x.dominoes(), 12);
        EXPECT.same("new: domino 0", Ask.dominoes(x, 0, 1), "#/#a#");
        EXPECT.same("NONE", PostChain.NONE, -1);
    }

    /** "at first there are none" */
    private static void rulesAtFirst() {
        PostChain x = new PostChain();
        for (int i = 0; i < 12; i++) {
            EXPECT.no("drop of a new object", x.drop(i / 3, i % 3));
        }
    }

    /** "The rule for a state (0 .. 3) and a symbol becomes to write a symbol, go right or else left, and be in state next (0 .. 4): true" */
    private static void everyRule() {
        for (int place = 0; place < 12; place++) {
            PostChain x = new PostChain();
            for (int i = 0; i < 30; i++) {
                String rule = "rule " + i + " at " + place;
                EXPECT.yes(rule, x.rule(place / 3, place % 3, i % 3, i % 2 == 0, i / 6));
                EXPECT.no(rule + " again", x.rule(place / 3, place % 3, i % 3, i % 2 == 0, i / 6));
                EXPECT.same(rule + ": lower text", Ask.dominoes(x, 5, 1), firstDomino(place, i));
            }
        }
    }

    private static String firstDomino(int place, int i) {
        String q = "" + "abcd".charAt(place / 3);
        String n = "" + "abcdh".charAt(i / 6);
        int s = place % 3;
        int w = i % 3;
        return i % 2 == 0 ? q + s + "/" + w + n : "0" + q + s + "/" + n + "0" + w;
    }

    /** "For a state (not HALT) and a symbol there may be a RULE": each pair has its own. */
    private static void ruleOfOtherPlace() {
        PostChain x = new PostChain();
        for (int place = 0; place < 12; place++) {
            EXPECT.yes("rule at " + place, x.rule(place / 3, place % 3, 1, true, 2));
        }
        for (int place = 0; place < 12; place++) {
            EXPECT.no("rule again at " + place, x.rule(place / 3, place % 3, 1, true, 2));
        }
    }

    /** "false if it is so already" */
    private static void ruleIsSoAlready() {
        PostChain x = new PostChain();
        // The very first values a rule could be thought to have already are a change too.
        EXPECT.yes("first rule", x.rule(0, 0, 0, false, 0));
        EXPECT.no("same rule", x.rule(0, 0, 0, false, 0));
        EXPECT.yes("other write", x.rule(0, 0, 1, false, 0));
        EXPECT.yes("other way", x.rule(0, 0, 1, true, 0));
        EXPECT.yes("other next", x.rule(0, 0, 1, true, 1));
        EXPECT.no("same rule again", x.rule(0, 0, 1, true, 1));
        EXPECT.yes("drop", x.drop(0, 0));
        EXPECT.yes("the dropped rule again", x.rule(0, 0, 1, true, 1));
        EXPECT.no("and again", x.rule(0, 0, 1, true, 1));
    }

    /** "IllegalArgumentException if a number is none such." */
    private static void ruleNoneSuch() {
        int[] beside = {-1, Integer.MIN_VALUE, Integer.MAX_VALUE};
        PostChain x = Machines.short1();
        refuse(x, 4, 0, 0, 0);
        refuse(x, 0, 3, 0, 0);
        refuse(x, 0, 0, 3, 0);
        refuse(x, 0, 0, 0, 5);
        for (int none : beside) {
            refuse(x, none, 0, 0, 0);
            refuse(x, 0, none, 0, 0);
            refuse(x, 0, 0, none, 0);
            refuse(x, 0, 0, 0, none);
        }
        // A pair that names a place in the row of rules is still none such.
        refuse(x, 1, -1, 0, 0);
        refuse(x, 0, 3, 1, 4);
        refuse(x, -1, 3, 0, 0);
        // What is so already is refused by its wrong number too.
        refuse(x, 0, 0, 1, 5);
        EXPECT.same("run after refused rules", Ask.run(x), "a 1h");
    }

    /** "There is no rule for a state and a symbol any more: true" */
    private static void everyDrop() {
        PostChain x = new PostChain();
        for (int place = 0; place < 12; place++) {
            x.rule(place / 3, place % 3, 1, true, 2);
        }
        EXPECT.same("dominoes of all rules", x.dominoes(), 28);
        int left = 28;
        for (int place = 0; place < 12; place++) {
            EXPECT.yes("drop at " + place, x.drop(place / 3, place % 3));
            EXPECT.no("drop again at " + place, x.drop(place / 3, place % 3));
            left -= place % 3 == 0 ? 2 : 1;
            EXPECT.same("dominoes after drop at " + place, x.dominoes(), left);
        }
        PostChain y = Machines.leftAtEnd();
        EXPECT.yes("drop", y.drop(0, 2));
        EXPECT.same("run after drop", Ask.run(y), "a12 2a2");
    }

    /** "false if there is none" */
    private static void dropOfNone() {
        PostChain x = Machines.short1();
        for (int place = 1; place < 12; place++) {
            EXPECT.no("drop of none at " + place, x.drop(place / 3, place % 3));
        }
        EXPECT.yes("drop", x.drop(0, 0));
        EXPECT.no("drop again", x.drop(0, 0));
    }

    /** "IllegalArgumentException if a number is none such." */
    private static void dropNoneSuch() {
        PostChain x = Machines.leftAtEnd();
        refuseDrop(x, -1, 0);
        refuseDrop(x, 4, 0);
        refuseDrop(x, 0, -1);
        refuseDrop(x, 0, 3);
        refuseDrop(x, 1, -1);
        refuseDrop(x, -1, 4);
        refuseDrop(x, Integer.MIN_VALUE, 0);
        refuseDrop(x, Integer.MAX_VALUE, 0);
        refuseDrop(x, 0, Integer.MIN_VALUE);
        refuseDrop(x, 0, Integer.MAX_VALUE);
        EXPECT.same("run after refused drops", Ask.run(x), "a12 2a2 21b 2h10");
    }

    /** "The INPUT is a row of at most 4 symbols, at first empty." */
    private static void inputAtFirst() {
        PostChain x = new PostChain();
        EXPECT.same("first configuration of a new object", x.run(0, -1), 1);
        x.input(4, 80);
        EXPECT.same("first configuration with the longest input", Ask.run(x), "a2222");
        refuseInput(x, 5, 80);
    }

    /** "The input becomes the n lowest digits of word, in base 3, the highest first: true" */
    private static void inputDigits() {
        for (int word = 0; word <= 250; word++) {
            inputReads(word);
        }
        for (int below = 0; below < 100; below++) {
            inputReads(Integer.MAX_VALUE - below);
        }
        PostChain x = new PostChain();
        x.input(4, Integer.MAX_VALUE);
        // 2147483647 ends in 2101 in base 3.
        EXPECT.same("the highest word", Ask.run(x), "a2101");
    }

    private static void inputReads(int word) {
        String digits = "0000" + Integer.toString(word, 3);
        PostChain x = new PostChain();
        for (int n = 4; n >= 0; n--) {
            EXPECT.yes("input(" + n + ", " + word + ")", x.input(n, word));
            EXPECT.same("run after input(" + n + ", " + word + ")", Ask.run(x),
                    "a" + digits.substring(digits.length() - n));
        }
    }

    /** "(this counts as a change also if it was the same)" */
    private static void inputAgain() {
        PostChain x = new PostChain();
        EXPECT.yes("an empty input in place of an empty one", x.input(0, 0));
        x.input(2, 5);
        fillAll(x, 1);
        checkAll("before", x, false, 1);
        EXPECT.yes("the same input", x.input(2, 5));
        checkAll("the same input", x, true, 1);
        fillAll(x, 1);
        EXPECT.yes("the same digits of another word", x.input(2, 14));
        checkAll("the same digits", x, true, 1);
    }

    /** "IllegalArgumentException if n is not 0 .. 4 or word is below 0." */
    private static void inputOutside() {
        PostChain x = new PostChain();
        x.input(2, 5);
        refuseInput(x, -1, 0);
        refuseInput(x, 5, 0);
        refuseInput(x, Integer.MAX_VALUE, 1);
        refuseInput(x, Integer.MIN_VALUE, 1);
        refuseInput(x, 4, -1);
        refuseInput(x, 4, Integer.MIN_VALUE);
        // No digit of the word is read, but it is below 0 all the same.
        refuseInput(x, 0, -1);
        refuseInput(x, 5, -1);
        EXPECT.same("run after refused inputs", Ask.run(x), "a12");
    }

    /** "both are empty at first" */
    private static void emptyAtFirst() {
        PostChain x = new PostChain();
        EXPECT.same("new: tray", x.tray(), 1);
        EXPECT.same("new: trees", x.trees(), 0);
        EXPECT.none("new: looked", x.looked());
        checkAll("new", x, true, 0);
    }

    /** "and are empty again when a rule or the input changes" */
    private static void emptyAfterChange() {
        PostChain x = Machines.toAndFro();
        fillAll(x, 3);
        checkAll("before", x, false, 3);
        x.rule(0, 0, 0, true, 2);
        checkAll("a rule changed", x, true, 3);
        x.rule(0, 0, 0, true, 1);
        fillAll(x, 3);
        x.rule(2, 2, 0, true, 2);
        checkAll("a rule came", x, true, 3);
        fillAll(x, 3);
        x.drop(2, 2);
        checkAll("a rule went", x, true, 3);
        fillAll(x, 3);
        x.input(2, 1);
        checkAll("another input", x, true, 3);
    }

    private static void objectsApart() {
        PostChain x = Machines.short1();
        PostChain y = new PostChain();
        y.input(1, 2);
        y.lay(1);
        EXPECT.same("one object", Ask.run(x), "a 1h");
        EXPECT.same("another object", Ask.run(y), "a2");
        EXPECT.same("the tray of one", x.lay(1), 1);
    }

    /** "An object is used for at most 512 calls after it has been made" */
    private static void lastCall() {
        PostChain x = new PostChain();
        for (int call = 1; call <= 510; call++) {
            x.rule(0, 0, 1, true, call % 2 == 0 ? 4 : 1);
        }
        EXPECT.same("call 511", x.search(400), 1);
        EXPECT.same("call 512", x.back(), 1);
    }

    private static void refuse(PostChain x, int state, int symbol, int write, int next) {
        EXPECT.fails("rule(" + state + ", " + symbol + ", " + write + ", true, " + next + ")",
                IllegalArgumentException.class, () -> x.rule(state, symbol, write, true, next));
    }

    private static void refuseDrop(PostChain x, int state, int symbol) {
        EXPECT.fails("drop(" + state + ", " + symbol + ")",
                IllegalArgumentException.class, () -> x.drop(state, symbol));
    }

    private static void refuseInput(PostChain x, int n, int word) {
        EXPECT.fails("input(" + n + ", " + word + ")",
                IllegalArgumentException.class, () -> x.input(n, word));
    }

    /** Lays and types the row (#, #), which has two trees, and looks at so many rows. */
    private static void fillAll(PostChain x, int looked) {
        x.search(looked);
        x.clear();
        x.lay(1);
        Ask.type(x, "#");
    }

    /** What is added to an empty tray and an empty text shows that they were empty. */
    private static void checkAll(String when, PostChain x, boolean empty, int looked) {
        EXPECT.same(when + ": trees", x.trees(), empty ? 0 : 2);
        EXPECT.same(when + ": looked", x.looked(), empty ? -1 : looked);
        EXPECT.same(when + ": lay", x.lay(1), empty ? 1 : 2);
        Ask.type(x, "#");
        EXPECT.same(when + ": trees of what was added", x.trees(), 2);
    }
}
