import java.util.ArrayList;
import java.util.List;
import java.util.function.Supplier;

/** Long mixed runs of calls, each answer compared with that of PlainModel. */
public final class ModelTest {
    private static final int OBJECTS = 400;
    private static final int MOST_CALLS = 512;

    private final Expect expect = new Expect("ModelTest");
    private long seed = 20261115;
    private PostChain x;
    private PlainModel model;
    private int calls;
    private int halting;
    private int found;

    public static void main(String[] args) {
        new ModelTest().all();
    }

    private void all() {
        for (int object = 0; object < OBJECTS && expect.wrong() < 20; object++) {
            x = new PostChain();
            model = new PlainModel();
            calls = 0;
            boolean allStates = object % 3 == 0;
            int rules = 3 + pick(10);
            for (int i = 0; i < rules; i++) {
                actRule(allStates);
            }
            while (calls < MOST_CALLS) {
                act(allStates);
                compareAnswers();
            }
            compareTexts();
        }
        // Runs that never halt or find a row would leave half of the document unseen.
        expect.yes("many runs halt", halting > 50);
        expect.yes("many searches find a row", found > 100);
        expect.end();
    }

    private int pick(int bound) {
        seed = seed * 6364136223846793005L + 1442695040888963407L;
        return (int) ((seed >>> 33) % bound);
    }

    /** Now and then a number just outside the range. */
    private int near(int from, int to) {
        if (pick(25) == 0) {
            return pick(2) == 0 ? from - 1 : to + 1;
        }
        return from + pick(to - from + 1);
    }

    /** What an object answers after its 512th call is free, so it is asked no more then. */
    private void same(String call, Supplier<Object> got, Supplier<Object> due) {
        if (calls == MOST_CALLS) {
            return;
        }
        calls++;
        expect.same(call, Ask.answer(got), due.get().toString());
    }

    private void act(boolean allStates) {
        switch (pick(14)) {
            case 0 -> actRule(allStates);
            case 1 -> actDropOrInput();
            case 2, 3 -> actLay(pick(8) == 0 ? 70 : 1 + pick(3));
            case 4, 5, 6 -> same("layWay", () -> x.layWay(), () -> model.layWay());
            case 7 -> actClear();
            case 8, 9, 10, 11 -> actType();
            default -> actSearch();
        }
    }

    private void actRule(boolean allStates) {
        int state = near(0, allStates ? 3 : 1);
        int symbol = near(0, 2);
        int write = near(0, 2);
        boolean right = pick(5) > 1;
        int next = pick(4) == 0 ? 4 : near(0, allStates ? 4 : 1);
        same("rule", () -> x.rule(state, symbol, write, right, next),
                () -> model.rule(state, symbol, write, right, next));
    }

    private void actDropOrInput() {
        if (pick(3) == 0) {
            int state = near(0, 3);
            int symbol = near(0, 2);
            same("drop", () -> x.drop(state, symbol), () -> model.drop(state, symbol));
            return;
        }
        int n = near(0, 4);
        int word = pick(20) == 0 ? -1 - pick(5) : pick(10) == 0 ? Integer.MAX_VALUE - pick(9) : pick(100);
        same("input", () -> x.input(n, word), () -> model.input(n, word));
    }

    private void actLay(int times) {
        for (int i = 0; i < times; i++) {
            int d = model.laid() == 0 && pick(2) == 0 ? 0 : near(0, model.dominoes().size() - 1);
            same("lay(" + d + ")", () -> x.lay(d), () -> model.lay(d));
        }
    }

    private void actClear() {
        same("clear", () -> {
            x.clear();
            return "";
        }, () -> {
            model.clear();
            return "";
        });
    }

    /** Mostly a word of the tray, because other texts have no trees. */
    private void actType() {
        List<Long> parts = new ArrayList<>();
        if (pick(4) == 0) {
            parts.add((long) pick(256) << 8 * pick(8) | (long) '0' << 8 * pick(8));
        }
        String word = model.word(pick(2) == 0);
        for (int from = 0; from < word.length() && from < 72 && pick(20) > 0; from += 8) {
            parts.add(Ask.part(word.substring(from, Math.min(word.length(), from + 8))));
        }
        for (long part : parts) {
            same("type", () -> x.type(part), () -> model.type(part));
        }
    }

    private void actSearch() {
        int fuel = pick(2) == 0 ? near(1, 400) : 400;
        same("search(" + fuel + ")", () -> x.search(fuel), () -> {
            int due = model.search(fuel);
            found += due == 1 ? 1 : 0;
            return due;
        });
    }

    private void compareAnswers() {
        same("tray", () -> x.tray(), () -> model.tray());
        same("back", () -> x.back(), () -> model.back());
        same("trees", () -> x.trees(), () -> model.trees());
        same("looked", () -> x.looked(), () -> model.looked());
        int k = near(-1, 40);
        int i = near(-1, 6);
        switch (pick(6)) {
            case 0 -> same("steps", () -> x.steps(), () -> model.run().size() - 1);
            case 1 -> same("halts", () -> x.halts(), () -> model.halts());
            case 2 -> same("run", () -> x.run(k / 3, i), () -> model.run(k / 3, i));
            case 3 -> same("dominoes", () -> x.dominoes(), () -> model.dominoes().size());
            case 4 -> same("domino", () -> x.domino(k, i > 2, i % 3), () -> model.domino(k, i > 2, i % 3));
            default -> same("way", () -> x.way(k), () -> model.way(k));
        }
    }

    private void compareTexts() {
        PostChain first = model.rebuilt();
        expect.same("run", Ask.run(first), String.join(" ", model.run()));
        expect.same("halts", first.halts() ? 1 : 0, model.halts() ? 1 : 0);
        if (model.halts()) {
            halting++;
            for (int k = -1; k <= model.way().size(); k++) {
                expect.same("way(" + k + ")", "" + first.way(k), model.way(k));
            }
        }
        PostChain second = model.rebuilt();
        List<String> pieces = new ArrayList<>();
        for (PlainModel.Piece piece : model.dominoes()) {
            pieces.add(piece.upper() + "/" + piece.lower());
        }
        expect.same("dominoes", Ask.dominoes(second, 0, second.dominoes()), String.join(" ", pieces));
    }
}
