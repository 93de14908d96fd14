import java.util.ArrayList;
import java.util.List;
import java.util.function.Function;
import java.util.function.Supplier;

/**
 * "A call that answers false or NONE, or throws, changes nothing."
 *
 * <p>Each such call is made on an object, and all that the face tells of that object is then compared
 * with what it tells of a second object that was made in the same way, but without the call.
 */
public final class NoChangeTest {
    private static final Expect EXPECT = new Expect("NoChangeTest");
    private static final String ARGUMENT = "throws.IllegalArgumentException";
    private static final String STATE = "throws.IllegalStateException";
    private static final int[] FAR = {Integer.MIN_VALUE, Integer.MAX_VALUE};

    private record Call(String name, String due, Function<PostChain, Object> body) {
    }

    public static void main(String[] args) {
        refusedByNewObject();
        refusedWithSolution();
        refusedWhenFull();
        refusedWithLongWay();
        questions();
        EXPECT.end();
    }

    /** Short1 with its way on the tray, its word as the text, and a search behind it. */
    private static PostChain withSolution() {
        PostChain x = Machines.short1();
        x.search(3);
        x.layWay();
        Ask.type(x, "#a#1h#h##");
        return x;
    }

    /** A run that does not halt, 60 dominoes, 60 characters, two trees. */
    private static PostChain full() {
        PostChain x = Machines.toAndFro();
        x.search(400);
        for (int i = 0; i < 60; i++) {
            x.lay(2);
        }
        Ask.type(x, "0".repeat(60));
        return x;
    }

    /** A way that the tray can't hold, and something else on the tray. */
    private static PostChain withLongWay() {
        PostChain x = Machines.longest();
        x.search(5);
        Ask.lay(x, 1, 2);
        Ask.type(x, "#0");
        return x;
    }

    private static void refusedByNewObject() {
        List<Call> calls = new ArrayList<>(refusedAnywhere());
        calls.add(new Call("drop(0, 0)", "false", x -> x.drop(0, 0)));
        calls.add(new Call("drop(3, 2)", "false", x -> x.drop(3, 2)));
        calls.add(new Call("way(0)", STATE, x -> x.way(0)));
        calls.add(new Call("layWay()", STATE, x -> x.layWay()));
        calls.add(new Call("back()", "-1", x -> x.back()));
        calls.add(new Call("looked()", "-1", x -> x.looked()));
        calls.add(new Call("lay(12)", "-1", x -> x.lay(12)));
        refused("new", PostChain::new, calls);
    }

    private static void refusedWithSolution() {
        List<Call> calls = new ArrayList<>(refusedAnywhere());
        calls.add(new Call("rule(0, 0, 1, true, 4)", "false", x -> x.rule(0, 0, 1, true, 4)));
        calls.add(new Call("drop(0, 1)", "false", x -> x.drop(0, 1)));
        calls.add(new Call("way(5)", "-1", x -> x.way(5)));
        calls.add(new Call("way(-2)", "-1", x -> x.way(-2)));
        calls.add(new Call("lay(14)", "-1", x -> x.lay(14)));
        refused("with a solution", NoChangeTest::withSolution, calls);
    }

    private static void refusedWhenFull() {
        List<Call> calls = new ArrayList<>(refusedAnywhere());
        calls.add(new Call("rule(0, 0, 0, true, 1)", "false", x -> x.rule(0, 0, 0, true, 1)));
        calls.add(new Call("lay(0)", "-1", x -> x.lay(0)));
        calls.add(new Call("lay(2)", "-1", x -> x.lay(2)));
        calls.add(new Call("type('0')", "false", x -> x.type('0')));
        calls.add(new Call("type of eight", "false", x -> x.type(Ask.part("00000000"))));
        calls.add(new Call("back()", "-1", x -> x.back()));
        calls.add(new Call("way(-1)", STATE, x -> x.way(-1)));
        calls.add(new Call("layWay()", STATE, x -> x.layWay()));
        refused("full", NoChangeTest::full, calls);
    }

    private static void refusedWithLongWay() {
        List<Call> calls = new ArrayList<>(refusedAnywhere());
        calls.add(new Call("layWay()", "-1", x -> x.layWay()));
        calls.add(new Call("way(135)", "-1", x -> x.way(135)));
        calls.add(new Call("back()", "-1", x -> x.back()));
        refused("with a long way", NoChangeTest::withLongWay, calls);
    }

    /** Calls that no object takes. */
    private static List<Call> refusedAnywhere() {
        List<Call> calls = new ArrayList<>();
        calls.add(new Call("rule(4, 0, 0, true, 0)", ARGUMENT, x -> x.rule(4, 0, 0, true, 0)));
        calls.add(new Call("rule(0, 3, 0, true, 0)", ARGUMENT, x -> x.rule(0, 3, 0, true, 0)));
        calls.add(new Call("rule(0, 0, 3, true, 0)", ARGUMENT, x -> x.rule(0, 0, 3, true, 0)));
        calls.add(new Call("rule(0, 0, 0, true, 5)", ARGUMENT, x -> x.rule(0, 0, 0, true, 5)));
        calls.add(new Call("rule(0, 0, 0, true, -1)", ARGUMENT, x -> x.rule(0, 0, 0, true, -1)));
        calls.add(new Call("drop(4, 0)", ARGUMENT, x -> x.drop(4, 0)));
        calls.add(new Call("drop(0, -1)", ARGUMENT, x -> x.drop(0, -1)));
        calls.add(new Call("input(5, 0)", ARGUMENT, x -> x.input(5, 0)));
        calls.add(new Call("input(-1, 0)", ARGUMENT, x -> x.input(-1, 0)));
        calls.add(new Call("input(1, -1)", ARGUMENT, x -> x.input(1, -1)));
        calls.add(new Call("run(0, 10)", "-1", x -> x.run(0, 10)));
        calls.add(new Call("run(13, -1)", "-1", x -> x.run(13, -1)));
        calls.add(new Call("domino(0, true, 1)", "-1", x -> x.domino(0, true, 1)));
        calls.add(new Call("domino(60, false, -1)", "-1", x -> x.domino(60, false, -1)));
        calls.add(new Call("lay(60)", "-1", x -> x.lay(60)));
        calls.add(new Call("lay(-1)", "-1", x -> x.lay(-1)));
        calls.add(new Call("type('x')", "false", x -> x.type('x')));
        calls.add(new Call("type(\"0x\")", "false", x -> x.type(Ask.part("0x"))));
        calls.add(new Call("type(-1)", "false", x -> x.type(-1)));
        calls.add(new Call("search(0)", "-1", x -> x.search(0)));
        calls.add(new Call("search(401)", "-1", x -> x.search(401)));
        for (int far : FAR) {
            calls.add(new Call("rule, far", ARGUMENT, x -> x.rule(far, far, far, false, far)));
            calls.add(new Call("drop, far", ARGUMENT, x -> x.drop(far, far)));
            calls.add(new Call("input, far", ARGUMENT, x -> x.input(far, far)));
            calls.add(new Call("run, far", "-1", x -> x.run(far, far)));
            calls.add(new Call("domino, far", "-1", x -> x.domino(far, true, far)));
            calls.add(new Call("lay, far", "-1", x -> x.lay(far)));
            calls.add(new Call("search, far", "-1", x -> x.search(far)));
        }
        return calls;
    }

    /** Calls that only ask change nothing either, whatever they answer. */
    private static void questions() {
        List<Call> calls = List.of(
                new Call("steps()", "1", x -> x.steps()),
                new Call("halts()", "true", x -> x.halts()),
                new Call("run(1, 0)", "49", x -> x.run(1, 0)),
                new Call("dominoes()", "14", x -> x.dominoes()),
                new Call("domino(0, false, -1)", "3", x -> x.domino(0, false, -1)),
                new Call("way(-1)", "5", x -> x.way(-1)),
                new Call("tray()", "2", x -> x.tray()),
                new Call("back()", "1", x -> x.back()),
                new Call("trees()", "2", x -> x.trees()),
                new Call("looked()", "3", x -> x.looked()),
                new Call("type(0)", "true", x -> x.type(0)));
        refused("a question", NoChangeTest::withSolution, calls);
    }

    private static void refused(String when, Supplier<PostChain> made, List<Call> calls) {
        List<Function<PostChain, String>> readers = List.of(NoChangeTest::readMachine,
                NoChangeTest::readDominoes, NoChangeTest::readWay, NoChangeTest::readTrayAndText,
                NoChangeTest::readSearch);
        for (Function<PostChain, String> reader : readers) {
            String before = reader.apply(made.get());
            for (Call call : calls) {
                PostChain x = made.get();
                String name = when + ": " + call.name;
                EXPECT.same(name, Ask.answer(() -> call.body.apply(x)), call.due);
                EXPECT.same(name + ", and what was read then", reader.apply(x), before);
            }
        }
    }

    private static String readMachine(PostChain x) {
        StringBuilder read = new StringBuilder(Ask.run(x));
        read.append(' ').append(x.steps()).append(' ').append(x.halts());
        for (int place = 0; place < 12; place++) {
            read.append(' ').append(x.drop(place / 3, place % 3));
        }
        return read.toString();
    }

    private static String readDominoes(PostChain x) {
        return Ask.dominoes(x, 0, x.dominoes());
    }

    private static String readWay(PostChain x) {
        return Ask.answer(() -> Ask.way(x));
    }

    /** How much can still be laid and typed tells how much there is; the trees tell what it is. */
    private static String readTrayAndText(PostChain x) {
        StringBuilder read = new StringBuilder();
        read.append(x.tray()).append(' ').append(x.back()).append(' ').append(x.trees());
        read.append(' ').append(x.looked());
        int laid = 0;
        while (laid < 99 && x.lay(1) != -1) {
            laid++;
        }
        int typed = 0;
        while (typed < 99 && x.type('#')) {
            typed++;
        }
        return read.append(' ').append(laid).append(' ').append(typed).append(' ').append(x.tray()).toString();
    }

    private static String readSearch(PostChain x) {
        return x.looked() + " " + x.search(400) + " " + x.looked() + " " + x.tray() + " " + x.lay(1);
    }
}
