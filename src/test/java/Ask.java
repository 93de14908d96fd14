import java.util.ArrayList;
import java.util.HashMap;
import java.util.List;
import java.util.Map;
import java.util.function.IntUnaryOperator;
import java.util.function.Supplier;

/** Reads whole texts out of a PostChain, and writes whole texts and rows into it. */
final class Ask {
    private Ask() {
    }

    /** The configurations of the run, with blanks between them. */
    static String run(PostChain x) {
        List<String> texts = new ArrayList<>();
        int steps = x.steps();
        for (int k = 0; k <= steps; k++) {
            int at = k;
            texts.add(text(i -> x.run(at, i)));
        }
        return String.join(" ", texts);
    }

    /** The dominoes first .. first + count - 1, as upper/lower, with blanks between them. */
    static String dominoes(PostChain x, int first, int count) {
        List<String> texts = new ArrayList<>();
        for (int d = first; d < first + count; d++) {
            int at = d;
            texts.add(text(i -> x.domino(at, true, i)) + "/" + text(i -> x.domino(at, false, i)));
        }
        return String.join(" ", texts);
    }

    /**
     * The dominoes of the way of the run, as upper/lower, with blanks between them. Each domino is read
     * once, because an object is used for at most 512 calls.
     */
    static String way(PostChain x) {
        List<String> texts = new ArrayList<>();
        Map<Integer, String> read = new HashMap<>();
        int size = x.way(-1);
        for (int k = 0; k < size; k++) {
            texts.add(read.computeIfAbsent(x.way(k), d -> dominoes(x, d, 1)));
        }
        return String.join(" ", texts);
    }

    /** What a call answers, or throws. */
    static String answer(Supplier<Object> call) {
        try {
            return call.get().toString();
        } catch (RuntimeException e) {
            return "throws." + e.getClass().getSimpleName();
        }
    }

    private static String text(IntUnaryOperator characters) {
        StringBuilder text = new StringBuilder();
        int length = characters.applyAsInt(-1);
        for (int i = 0; i < length; i++) {
            text.append((char) characters.applyAsInt(i));
        }
        return text.toString();
    }

    /** Types a text in parts of eight characters; false as soon as a part is refused. */
    static boolean type(PostChain x, String text) {
        for (int from = 0; from < text.length(); from += 8) {
            if (!x.type(part(text.substring(from, Math.min(text.length(), from + 8))))) {
                return false;
            }
        }
        return true;
    }

    /** At most eight characters as the bytes of a long, the first one the highest. */
    static long part(String text) {
        long part = 0;
        for (int i = 0; i < text.length(); i++) {
            part = part << 8 | text.charAt(i);
        }
        return part;
    }

    static void lay(PostChain x, int... numbers) {
        for (int number : numbers) {
            x.lay(number);
        }
    }
}
