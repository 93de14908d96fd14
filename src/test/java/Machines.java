import java.util.List;
import java.util.function.Supplier;

/** Machines that several tests use, each on a new object. */
final class Machines {
    private Machines() {
    }

    /** a12 2a2 21b 2h10: to the right inside, and to the left at the end. */
    static PostChain leftAtEnd() {
        PostChain x = new PostChain();
        x.input(2, 5);
        x.rule(0, 1, 2, true, 0);
        x.rule(0, 2, 1, true, 1);
        x.rule(1, 0, 0, false, 4);
        return x;
    }

    /** a12 0a2 b01 2h1: to the left inside. */
    static PostChain leftInside() {
        PostChain x = new PostChain();
        x.input(2, 5);
        x.rule(0, 1, 0, true, 0);
        x.rule(0, 2, 1, false, 1);
        x.rule(1, 0, 2, true, 4);
        return x;
    }

    /** a 1h: to the right at the end, the shortest run that halts. */
    static PostChain short1() {
        PostChain x = new PostChain();
        x.rule(0, 0, 1, true, 4);
        return x;
    }

    /** Three steps (a 1b a11 0h1); the search finds a row as the 59th that it looks at. */
    static PostChain found59() {
        PostChain x = new PostChain();
        x.rule(0, 0, 1, true, 1);
        x.rule(1, 0, 1, false, 0);
        x.rule(0, 1, 0, true, 4);
        return x;
    }

    /** The way has 60 dominoes, and the search finds it. */
    static PostChain way60() {
        PostChain x = new PostChain();
        x.input(4, 40);
        x.rule(0, 1, 2, true, 0);
        x.rule(0, 0, 2, true, 1);
        x.rule(1, 0, 1, true, 4);
        return x;
    }

    /** The way has 61 dominoes, and the search finds it. */
    static PostChain way61() {
        PostChain x = new PostChain();
        x.input(4, 44);
        x.rule(0, 0, 2, false, 3);
        x.rule(0, 1, 0, true, 0);
        x.rule(0, 2, 1, true, 0);
        x.rule(2, 1, 1, false, 3);
        x.rule(3, 0, 0, false, 4);
        x.rule(3, 1, 0, false, 2);
        return x;
    }

    /** Halts by the last step that a run may have, in a text of the most characters that it may have. */
    static PostChain longest() {
        PostChain x = new PostChain();
        x.input(4, 40);
        x.rule(0, 1, 1, true, 0);
        x.rule(0, 0, 1, true, 1);
        x.rule(1, 0, 1, true, 2);
        x.rule(2, 0, 1, false, 3);
        x.rule(3, 1, 1, true, 3);
        x.rule(3, 0, 2, true, 2);
        x.rule(3, 2, 2, true, 4);
        return x;
    }

    /** Would halt (1h20) by a step more than a run may have. */
    static PostChain thirteenth() {
        PostChain x = new PostChain();
        x.input(2, 5);
        x.rule(0, 1, 2, true, 1);
        x.rule(0, 2, 2, false, 1);
        x.rule(1, 0, 0, false, 0);
        x.rule(1, 1, 1, true, 4);
        x.rule(1, 2, 1, true, 1);
        return x;
    }

    /** Steps to and fro for ever, in a text that does not grow. */
    static PostChain toAndFro() {
        PostChain x = new PostChain();
        x.input(2, 0);
        x.rule(0, 0, 0, true, 1);
        x.rule(1, 0, 0, false, 0);
        return x;
    }

    /** Those of these whose run halts. */
    static List<Supplier<PostChain>> halting() {
        return List.of(Machines::leftAtEnd, Machines::leftInside, Machines::short1, Machines::found59,
                Machines::way60, Machines::way61, Machines::longest);
    }
}
