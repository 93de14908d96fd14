import java.util.ArrayList;
import java.util.List;

/**
 * The document's words once more, in the plainest form: texts as Strings, rows as lists, everything
 * reckoned anew at each question. It is there to be compared with, so it shares nothing with PostChain.
 */
final class PlainModel {
    static final String ILLEGAL_STATE = "throws.IllegalStateException";
    static final String ILLEGAL_ARGUMENT = "throws.IllegalArgumentException";

    private record Rule(int write, boolean right, int next) {
    }

    record Piece(String upper, String lower) {
    }

    private static final String STATES = "abcdh";

    private final Rule[][] rules = new Rule[4][3];
    private String input = "";
    private List<Integer> tray = new ArrayList<>();
    private String text = "";
    private int looked = -1;

    String rule(int state, int symbol, int write, boolean right, int next) {
        if (state < 0 || state > 3 || symbol < 0 || symbol > 2 || write < 0 || write > 2 || next < 0 || next > 4) {
            return ILLEGAL_ARGUMENT;
        }
        Rule rule = new Rule(write, right, next);
        if (rule.equals(rules[state][symbol])) {
            return "false";
        }
        rules[state][symbol] = rule;
        return changed();
    }

    String drop(int state, int symbol) {
        if (state < 0 || state > 3 || symbol < 0 || symbol > 2) {
            return ILLEGAL_ARGUMENT;
        }
        if (rules[state][symbol] == null) {
            return "false";
        }
        rules[state][symbol] = null;
        return changed();
    }

    String input(int n, int word) {
        if (n < 0 || n > 4 || word < 0) {
            return ILLEGAL_ARGUMENT;
        }
        String all = "0000" + Integer.toString(word, 3);
        input = all.substring(all.length() - n);
        return changed();
    }

    private String changed() {
        tray = new ArrayList<>();
        text = "";
        looked = -1;
        return "true";
    }

    /** The configuration behind this one; null if there is no step. */
    private String stepFrom(String x) {
        int head = headOf(x);
        int state = STATES.indexOf(x.charAt(head));
        String left = x.substring(0, head);
        String behind = x.substring(head + 1);
        int symbol = behind.isEmpty() ? 0 : behind.charAt(0) - '0';
        Rule rule = state == 4 ? null : rules[state][symbol];
        if (rule == null) {
            return null;
        }
        String after = behind.isEmpty() ? "" : behind.substring(1);
        if (rule.right) {
            return left + rule.write + STATES.charAt(rule.next) + after;
        }
        if (left.isEmpty()) {
            return null;
        }
        char c = left.charAt(left.length() - 1);
        return left.substring(0, left.length() - 1) + STATES.charAt(rule.next) + c + rule.write + after;
    }

    private static int headOf(String x) {
        int head = 0;
        while (STATES.indexOf(x.charAt(head)) < 0) {
            head++;
        }
        return head;
    }

    List<String> run() {
        List<String> run = new ArrayList<>();
        String x = "a" + input;
        while (x != null && x.length() <= 10 && run.size() <= 12) {
            run.add(x);
            x = stepFrom(x);
        }
        return run;
    }

    boolean halts() {
        List<String> run = run();
        return run.get(run.size() - 1).contains("h");
    }

    List<Piece> dominoes() {
        List<Piece> all = new ArrayList<>();
        all.add(new Piece("#", "#a" + input + "#"));
        for (String s : new String[] {"#", "0", "1", "2"}) {
            all.add(new Piece(s, s));
        }
        for (int state = 0; state < 4; state++) {
            for (int s = 0; s < 3; s++) {
                if (rules[state][s] != null) {
                    addRule(all, "" + STATES.charAt(state), s, rules[state][s]);
                }
            }
        }
        for (int s = 0; s < 3; s++) {
            all.add(new Piece(s + "h", "h"));
        }
        for (int s = 0; s < 3; s++) {
            all.add(new Piece("h" + s, "h"));
        }
        all.add(new Piece("h##", "#"));
        return all;
    }

    private static void addRule(List<Piece> all, String q, int s, Rule rule) {
        String n = "" + STATES.charAt(rule.next);
        if (rule.right) {
            all.add(new Piece(q + s, rule.write + n));
            if (s == 0) {
                all.add(new Piece(q + "#", rule.write + n + "#"));
            }
            return;
        }
        for (int c = 0; c < 3; c++) {
            all.add(new Piece(c + q + s, n + c + rule.write));
        }
        for (int c = 0; c < 3 && s == 0; c++) {
            all.add(new Piece(c + q + "#", n + c + rule.write + "#"));
        }
    }

    /** The way of the run; null if the run does not halt. */
    List<Integer> way() {
        if (!halts()) {
            return null;
        }
        List<Integer> way = new ArrayList<>();
        List<String> run = run();
        way.add(0);
        for (int k = 0; k + 1 < run.size(); k++) {
            layPass(way, run.get(k) + "#", run.get(k + 1) + "#");
        }
        String x = run.get(run.size() - 1);
        while (!x.equals("h")) {
            int head = headOf(x);
            String next = head > 0
                    ? x.substring(0, head - 1) + x.substring(head)
                    : "h" + x.substring(2);
            layPass(way, x + "#", next + "#");
            x = next;
        }
        way.add(dominoes().size() - 1);
        return way;
    }

    /** Of all ways to lay over into next with just one domino that is no copy, there is one. */
    private void layPass(List<Integer> way, String over, String next) {
        List<Piece> all = dominoes();
        for (int d = 5; d < all.size() - 1; d++) {
            Piece piece = all.get(d);
            for (int at = 0; at + piece.upper.length() <= over.length(); at++) {
                String ahead = over.substring(0, at);
                String behind = over.substring(at + piece.upper.length());
                boolean reads = (ahead + piece.upper + behind).equals(over);
                if (reads && (ahead + piece.lower + behind).equals(next)) {
                    copy(way, ahead);
                    way.add(d);
                    copy(way, behind);
                    return;
                }
            }
        }
        throw new AssertionError("no pass from " + over + " to " + next);
    }

    private static void copy(List<Integer> way, String symbols) {
        for (char c : symbols.toCharArray()) {
            way.add(1 + "#012".indexOf(c));
        }
    }

    int run(int k, int i) {
        return k < 0 || k >= run().size() ? -1 : characterOf(run().get(k), i);
    }

    int domino(int d, boolean upper, int i) {
        if (d < 0 || d >= dominoes().size()) {
            return -1;
        }
        return characterOf(upper ? dominoes().get(d).upper : dominoes().get(d).lower, i);
    }

    private static int characterOf(String text, int i) {
        return i == -1 ? text.length() : i >= 0 && i < text.length() ? text.charAt(i) : -1;
    }

    String way(int k) {
        List<Integer> way = way();
        if (way == null) {
            return ILLEGAL_STATE;
        }
        return "" + (k == -1 ? way.size() : k >= 0 && k < way.size() ? way.get(k) : -1);
    }

    String lay(int d) {
        if (d < 0 || d >= dominoes().size() || tray.size() == 60) {
            return "-1";
        }
        tray.add(d);
        return "" + tray.size();
    }

    String layWay() {
        List<Integer> way = way();
        if (way == null) {
            return ILLEGAL_STATE;
        }
        if (way.size() > 60) {
            return "-1";
        }
        tray = way;
        return "" + way.size();
    }

    void clear() {
        tray = new ArrayList<>();
        text = "";
    }

    String word(boolean upper) {
        return word(tray, upper);
    }

    private String word(List<Integer> row, boolean upper) {
        List<Piece> all = dominoes();
        StringBuilder word = new StringBuilder();
        for (int d : row) {
            word.append(upper ? all.get(d).upper : all.get(d).lower);
        }
        return word.toString();
    }

    int tray() {
        String upper = word(true);
        String lower = word(false);
        if (!upper.startsWith(lower) && !lower.startsWith(upper)) {
            return 0;
        }
        return !tray.isEmpty() && tray.get(0) == 0 && upper.equals(lower) ? 2 : 1;
    }

    int back() {
        if (tray() != 2) {
            return -1;
        }
        String untilHalt = word(true).split("h")[0];
        return untilHalt.replaceAll("[^#]", "").length() - 1;
    }

    String type(long part) {
        StringBuilder more = new StringBuilder();
        for (int shift = 56; shift >= 0; shift -= 8) {
            int c = (int) (part >> shift) & 0xff;
            if (c != 0) {
                more.append((char) c);
            }
        }
        if (!more.toString().matches("[#012abcdh]*") || text.length() + more.length() > 60) {
            return "false";
        }
        text += more;
        return "true";
    }

    int trees() {
        return tray.isEmpty() ? 0 : trees(true, text, 0) + trees(false, text, 0);
    }

    /** Trees from A (or B) over a text and the tray's numbers from k on, the k-th being the last one. */
    private int trees(boolean upper, String rest, int k) {
        if (k == tray.size()) {
            return 0;
        }
        Piece piece = dominoes().get(tray.get(k));
        String start = upper ? piece.upper : piece.lower;
        if (!rest.startsWith(start)) {
            return 0;
        }
        String inner = rest.substring(start.length());
        int ended = inner.isEmpty() && k + 1 == tray.size() ? 1 : 0;
        return ended + trees(upper, inner, k + 1);
    }

    int search(int fuel) {
        if (fuel < 1 || fuel > 400) {
            return -1;
        }
        looked = 0;
        List<List<Integer>> rows = List.of(List.of(0));
        while (!rows.isEmpty()) {
            List<List<Integer>> longer = new ArrayList<>();
            for (List<Integer> row : rows) {
                if (looked == fuel) {
                    return 2;
                }
                looked++;
                if (word(row, true).equals(word(row, false))) {
                    tray = row.size() <= 60 ? new ArrayList<>(row) : tray;
                    return 1;
                }
                longer.addAll(onFrom(row));
            }
            rows = longer;
        }
        return 0;
    }

    private List<List<Integer>> onFrom(List<Integer> row) {
        List<List<Integer>> longer = new ArrayList<>();
        List<Piece> all = dominoes();
        String upper = word(row, true);
        String lower = word(row, false);
        if (Math.abs(upper.length() - lower.length()) > 12) {
            return longer;
        }
        for (int d = 0; d < all.size(); d++) {
            String top = upper + all.get(d).upper;
            String bottom = lower + all.get(d).lower;
            if (top.startsWith(bottom) || bottom.startsWith(top)) {
                List<Integer> next = new ArrayList<>(row);
                next.add(d);
                longer.add(next);
            }
        }
        return longer;
    }

    int looked() {
        return looked;
    }

    int laid() {
        return tray.size();
    }

    /** A new object with this machine, with calls left to read all of it. */
    PostChain rebuilt() {
        PostChain x = new PostChain();
        x.input(input.length(), input.isEmpty() ? 0 : Integer.parseInt(input, 3));
        for (int state = 0; state < 4; state++) {
            for (int symbol = 0; symbol < 3; symbol++) {
                Rule rule = rules[state][symbol];
                if (rule != null) {
                    x.rule(state, symbol, rule.write, rule.right, rule.next);
                }
            }
        }
        return x;
    }
}
