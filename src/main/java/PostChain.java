/**
 * Carries the halting of a small machine over into dominoes and from there into a grammar, and
 * carries answers back. The promises stand in DOC.md.
 *
 * <p>All rows and texts are made once, with the object, and used again by every call, because all
 * calls of a run share one room.
 */
public final class PostChain {
    public static final int NONE = -1;

    private static final int STATES = 4;
    private static final int HALT = 4;
    private static final int SYMBOLS = 3;
    private static final int RULES = STATES * SYMBOLS;
    private static final int MOST_INPUT = 4;
    private static final int MOST_STEPS = 12;
    private static final int MOST_CHARACTERS = 10;
    private static final int MOST_LAID = 60;
    private static final int MOST_TYPED = 60;
    private static final int MOST_FUEL = 400;
    private static final int MOST_AHEAD = 12;

    private static final char HASH = '#';
    private static final String ALPHABET = "#012abcdh";
    private static final int BYTES = 8;

    // Two of the dominoes stand before the first copying one, seven behind those of the rules.
    private static final int HASH_DOMINO = 1;
    private static final int FIRST_COPY = 2;
    private static final int ENDING_DOMINOES = 2 * SYMBOLS + 1;
    // A rule to the left for the blank has the most dominoes, one to the left for another symbol half.
    private static final int MOST_DOMINOES =
            FIRST_COPY + SYMBOLS + STATES * (2 * SYMBOLS + (SYMBOLS - 1) * SYMBOLS) + ENDING_DOMINOES;
    private static final int LONGEST_UPPER = 3;
    private static final int LONGEST_LOWER = MOST_INPUT + 3;
    // A pass over a configuration lays at most one domino for each of its characters.
    private static final int MOST_WAY = 2 + (MOST_STEPS + MOST_CHARACTERS) * MOST_CHARACTERS;

    private static final int FITS_NOT = 0;
    private static final int FITS = 1;
    private static final int SOLUTION = 2;

    private static final int EMPTY = 0;
    private static final int FOUND = 1;
    private static final int OUT = 2;

    private final Machine machine = new Machine();
    private final Run configurations = new Run();
    private final Box box = new Box();
    private final Way wayOfRun = new Way();
    private final Hunt hunt = new Hunt();
    private final Row laid = new Row(MOST_LAID);
    private final Word typed = new Word(MOST_TYPED);
    private final Word upperWord = new Word(MOST_LAID * LONGEST_UPPER);
    private final Word lowerWord = new Word(MOST_LAID * LONGEST_LOWER);

    public PostChain() {
        startOver();
    }

    public boolean rule(int state, int symbol, int write, boolean right, int next)
            throws IllegalArgumentException {
        if (!isState(state) || !isSymbol(symbol) || !isSymbol(write)) {
            throw new IllegalArgumentException("no such state or symbol");
        }
        if (next != HALT && !isState(next)) {
            throw new IllegalArgumentException("no such next state");
        }
        if (!machine.learn(ruleNumber(state, symbol), write, right, next)) {
            return false;
        }
        startOver();
        return true;
    }

    public boolean drop(int state, int symbol) throws IllegalArgumentException {
        if (!isState(state) || !isSymbol(symbol)) {
            throw new IllegalArgumentException("no such state or symbol");
        }
        if (!machine.forget(ruleNumber(state, symbol))) {
            return false;
        }
        startOver();
        return true;
    }

    public boolean input(int n, int word) throws IllegalArgumentException {
        if (n < 0 || n > MOST_INPUT || word < 0) {
            throw new IllegalArgumentException("no such input");
        }
        machine.take(n, word);
        startOver();
        return true;
    }

    public int steps() {
        return configurations.stepCount();
    }

    public boolean halts() {
        return configurations.isHalted();
    }

    public int run(int k, int i) {
        return k < 0 || k > configurations.stepCount() ? NONE : configurations.text(k).ask(i);
    }

    public int dominoes() {
        return box.size();
    }

    public int domino(int d, boolean upper, int i) {
        if (!box.has(d)) {
            return NONE;
        }
        return upper ? box.get(d).upper.ask(i) : box.get(d).lower.ask(i);
    }

    public int way(int k) throws IllegalStateException {
        if (!configurations.isHalted()) {
            throw new IllegalStateException("the run does not halt");
        }
        return wayOfRun.row().ask(k);
    }

    public int lay(int d) {
        if (!box.has(d) || laid.size() >= MOST_LAID) {
            return NONE;
        }
        laid.add(d);
        return laid.size();
    }

    public int layWay() throws IllegalStateException {
        if (!configurations.isHalted()) {
            throw new IllegalStateException("the run does not halt");
        }
        if (wayOfRun.row().size() > MOST_LAID) {
            return NONE;
        }
        laid.copy(wayOfRun.row());
        return laid.size();
    }

    public void clear() {
        laid.empty();
        typed.empty();
    }

    public int tray() {
        spellLaid();
        if (!upperWord.agrees(lowerWord)) {
            return FITS_NOT;
        }
        return laid.ask(0) == 0 && upperWord.same(lowerWord) ? SOLUTION : FITS;
    }

    public int back() {
        return tray() == SOLUTION ? hashesAheadOfHalt(upperWord) - 1 : NONE;
    }

    public boolean type(long part) {
        int more = 0;
        for (int i = 0; i < BYTES; i++) {
            char c = byteOf(part, i);
            if (c != 0 && ALPHABET.indexOf(c) < 0) {
                return false;
            }
            more += c == 0 ? 0 : 1;
        }
        if (typed.size() + more > MOST_TYPED) {
            return false;
        }
        for (int i = 0; i < BYTES; i++) {
            char c = byteOf(part, i);
            if (c != 0) {
                typed.add(c);
            }
        }
        return true;
    }

    /** The numbers behind the text settle every rule of a tree but S: A or S: B. */
    public int trees() {
        if (laid.size() == 0) {
            return 0;
        }
        spellLaid();
        return (typed.same(upperWord) ? 1 : 0) + (typed.same(lowerWord) ? 1 : 0);
    }

    public int search(int fuel) {
        if (fuel < 1 || fuel > MOST_FUEL) {
            return NONE;
        }
        int end = hunt.look(box, fuel);
        if (end == FOUND && hunt.foundSize() <= MOST_LAID) {
            hunt.layFound(laid);
        }
        return end;
    }

    public int looked() {
        return hunt.lookedAt();
    }

    /** What hangs on the machine is made anew at each change, so that no question can find it stale. */
    private void startOver() {
        configurations.follow(machine);
        box.fill(machine);
        wayOfRun.trace(machine, configurations, box);
        hunt.forget();
        laid.empty();
        typed.empty();
    }

    private void spellLaid() {
        upperWord.empty();
        lowerWord.empty();
        for (int i = 0; i < laid.size(); i++) {
            Domino domino = box.get(laid.ask(i));
            upperWord.addPart(domino.upper, 0, domino.upper.size());
            lowerWord.addPart(domino.lower, 0, domino.lower.size());
        }
    }

    private static int hashesAheadOfHalt(Word word) {
        int hashes = 0;
        for (int i = 0; i < word.size() && word.at(i) != letter(HALT); i++) {
            hashes += word.at(i) == HASH ? 1 : 0;
        }
        return hashes;
    }

    private static char byteOf(long part, int i) {
        return (char) ((part >>> (8 * (BYTES - 1 - i))) & 255);
    }

    private static boolean isState(int state) {
        return state >= 0 && state < STATES;
    }

    private static boolean isSymbol(int symbol) {
        return symbol >= 0 && symbol < SYMBOLS;
    }

    private static int ruleNumber(int state, int symbol) {
        return state * SYMBOLS + symbol;
    }

    private static char letter(int state) {
        return state == HALT ? 'h' : (char) ('a' + state);
    }

    private static char digit(int symbol) {
        return (char) ('0' + symbol);
    }

    private static int symbolOf(char digit) {
        return digit - '0';
    }

    /** A text that keeps its room; what would go beyond the room is left away. */
    private static final class Word {
        private final char[] characters;
        private int length;

        Word(int room) {
            characters = new char[room];
        }

        int size() {
            return length;
        }

        char at(int i) {
            return i >= 0 && i < length ? characters[i] : 0;
        }

        /** The way in which the face asks for a text: -1 asks for its length. */
        int ask(int i) {
            if (i == -1) {
                return length;
            }
            return i >= 0 && i < length ? characters[i] : NONE;
        }

        void empty() {
            length = 0;
        }

        Word add(char c) {
            if (length < characters.length) {
                characters[length] = c;
                length++;
            }
            return this;
        }

        void addPart(Word other, int from, int to) {
            for (int i = from; i < to; i++) {
                add(other.at(i));
            }
        }

        void copy(Word other) {
            empty();
            addPart(other, 0, other.size());
        }

        void remove(int place) {
            if (place < 0 || place >= length) {
                return;
            }
            for (int i = place + 1; i < length; i++) {
                characters[i - 1] = characters[i];
            }
            length--;
        }

        /** Whether one of the two is a beginning of the other. */
        boolean agrees(Word other) {
            int shared = Math.min(length, other.length);
            for (int i = 0; i < shared; i++) {
                if (at(i) != other.at(i)) {
                    return false;
                }
            }
            return true;
        }

        boolean same(Word other) {
            return length == other.length && agrees(other);
        }

        /** Where the state stands in a configuration: only states are letters. */
        int head() {
            for (int i = 0; i < length; i++) {
                if (characters[i] >= 'a') {
                    return i;
                }
            }
            return NONE;
        }
    }

    /** A row of numbers of dominoes that keeps its room. */
    private static final class Row {
        private final int[] numbers;
        private int length;

        Row(int room) {
            numbers = new int[room];
        }

        int size() {
            return length;
        }

        /** The way in which the face asks for a row: -1 asks for its length. */
        int ask(int i) {
            if (i == -1) {
                return length;
            }
            return i >= 0 && i < length ? numbers[i] : NONE;
        }

        void empty() {
            length = 0;
        }

        void add(int number) {
            if (length < numbers.length) {
                numbers[length] = number;
                length++;
            }
        }

        void copy(Row other) {
            empty();
            for (int i = 0; i < other.size(); i++) {
                add(other.ask(i));
            }
        }

        /** A found row is known from its end, so it has to be turned. */
        void turn() {
            for (int i = 0; i < length / 2; i++) {
                int number = numbers[i];
                numbers[i] = numbers[length - 1 - i];
                numbers[length - 1 - i] = number;
            }
        }
    }

    /** The rules, each under its number, and the first configuration. */
    private static final class Machine {
        private final boolean[] known = new boolean[RULES];
        private final boolean[] right = new boolean[RULES];
        private final int[] write = new int[RULES];
        private final int[] next = new int[RULES];
        private final Word first = new Word(MOST_INPUT + 1);

        Machine() {
            first.add(letter(0));
        }

        boolean learn(int rule, int writes, boolean goesRight, int becomes) {
            if (known[rule] && write[rule] == writes && right[rule] == goesRight && next[rule] == becomes) {
                return false;
            }
            known[rule] = true;
            write[rule] = writes;
            right[rule] = goesRight;
            next[rule] = becomes;
            return true;
        }

        boolean forget(int rule) {
            boolean was = known[rule];
            known[rule] = false;
            return was;
        }

        void take(int n, int word) {
            int weight = 1;
            for (int i = 1; i < n; i++) {
                weight *= SYMBOLS;
            }
            first.empty();
            first.add(letter(0));
            for (int i = 0; i < n; i++) {
                first.add(digit(word / weight % SYMBOLS));
                weight = Math.max(1, weight / SYMBOLS);
            }
        }

        /** The number of the rule that a configuration asks for; NONE if there is no such rule. */
        int ruleFor(Word text) {
            int head = text.head();
            int state = text.at(head) - letter(0);
            int symbol = head + 1 < text.size() ? symbolOf(text.at(head + 1)) : 0;
            if (!isState(state) || !isSymbol(symbol) || !known[ruleNumber(state, symbol)]) {
                return NONE;
            }
            return ruleNumber(state, symbol);
        }

        /** Makes of to what a step makes of from; false if there is no step. */
        boolean step(Word from, Word to) {
            int rule = ruleFor(from);
            int head = from.head();
            if (rule == NONE || (head == 0 && !right[rule])) {
                return false;
            }
            to.empty();
            if (right[rule]) {
                to.addPart(from, 0, head);
                to.add(digit(write[rule])).add(letter(next[rule]));
            } else {
                to.addPart(from, 0, head - 1);
                to.add(letter(next[rule])).add(from.at(head - 1)).add(digit(write[rule]));
            }
            to.addPart(from, head + 2, from.size());
            return true;
        }
    }

    /** The configurations of the run. */
    private static final class Run {
        private final Word[] texts = new Word[MOST_STEPS + 1];
        private int last;

        Run() {
            for (int i = 0; i < texts.length; i++) {
                // One more than a text may have, so that a text that is too long can be seen to be so.
                texts[i] = new Word(MOST_CHARACTERS + 1);
            }
        }

        int stepCount() {
            return last;
        }

        Word text(int k) {
            return texts[Math.max(0, Math.min(k, last))];
        }

        boolean isHalted() {
            Word text = text(last);
            return text.at(text.head()) == letter(HALT);
        }

        void follow(Machine machine) {
            last = 0;
            texts[0].copy(machine.first);
            for (int k = 1; k < texts.length; k++) {
                if (!machine.step(texts[k - 1], texts[k]) || texts[k].size() > MOST_CHARACTERS) {
                    return;
                }
                last = k;
            }
        }
    }

    private static final class Domino {
        private final Word upper = new Word(LONGEST_UPPER);
        private final Word lower = new Word(LONGEST_LOWER);
    }

    /** All dominoes by their numbers. */
    private static final class Box {
        private final Domino[] pieces = new Domino[MOST_DOMINOES];
        private final int[] firstOfRule = new int[RULES];
        private int count;

        Box() {
            for (int i = 0; i < pieces.length; i++) {
                pieces[i] = new Domino();
            }
        }

        int size() {
            return count;
        }

        boolean has(int d) {
            return d >= 0 && d < count;
        }

        Domino get(int d) {
            return pieces[has(d) ? d : 0];
        }

        void fill(Machine machine) {
            count = 0;
            Domino start = open();
            start.upper.add(HASH);
            start.lower.add(HASH).addPart(machine.first, 0, machine.first.size());
            start.lower.add(HASH);
            addCopy(HASH);
            for (int s = 0; s < SYMBOLS; s++) {
                addCopy(digit(s));
            }
            for (int rule = 0; rule < RULES; rule++) {
                firstOfRule[rule] = count;
                addRule(machine, rule, digit(rule % SYMBOLS));
                if (rule % SYMBOLS == 0) {
                    addRule(machine, rule, HASH);
                }
            }
            addEnding();
        }

        /** The domino of a rule for a configuration; ahead is the symbol ahead of its state. */
        int ofRule(int rule, boolean right, int ahead, boolean atEnd) {
            if (right) {
                return firstOfRule[rule] + (atEnd ? 1 : 0);
            }
            return firstOfRule[rule] + (atEnd ? SYMBOLS : 0) + ahead;
        }

        int firstEnding() {
            return count - ENDING_DOMINOES;
        }

        private Domino open() {
            count = Math.min(count + 1, pieces.length);
            Domino domino = pieces[count - 1];
            domino.upper.empty();
            domino.lower.empty();
            return domino;
        }

        private void addCopy(char c) {
            Domino domino = open();
            domino.upper.add(c);
            domino.lower.add(c);
        }

        /** behind is what stands behind the state: the symbol, or the # that stands for a blank. */
        private void addRule(Machine machine, int rule, char behind) {
            if (!machine.known[rule]) {
                return;
            }
            if (machine.right[rule]) {
                addRight(machine, rule, behind);
                return;
            }
            for (int c = 0; c < SYMBOLS; c++) {
                addLeft(machine, rule, digit(c), behind);
            }
        }

        private void addRight(Machine machine, int rule, char behind) {
            Domino domino = open();
            domino.upper.add(letter(rule / SYMBOLS)).add(behind);
            domino.lower.add(digit(machine.write[rule])).add(letter(machine.next[rule]));
            keepHash(domino, behind);
        }

        private void addLeft(Machine machine, int rule, char ahead, char behind) {
            Domino domino = open();
            domino.upper.add(ahead).add(letter(rule / SYMBOLS)).add(behind);
            domino.lower.add(letter(machine.next[rule])).add(ahead).add(digit(machine.write[rule]));
            keepHash(domino, behind);
        }

        private static void keepHash(Domino domino, char behind) {
            if (behind == HASH) {
                domino.lower.add(HASH);
            }
        }

        private void addEnding() {
            char halt = letter(HALT);
            for (int s = 0; s < SYMBOLS; s++) {
                Domino domino = open();
                domino.upper.add(digit(s)).add(halt);
                domino.lower.add(halt);
            }
            for (int s = 0; s < SYMBOLS; s++) {
                Domino domino = open();
                domino.upper.add(halt).add(digit(s));
                domino.lower.add(halt);
            }
            Domino end = open();
            end.upper.add(halt).add(HASH).add(HASH);
            end.lower.add(HASH);
        }
    }

    /** The way of the run; empty if the run does not halt. */
    private static final class Way {
        private final Row passes = new Row(MOST_WAY);
        private final Word rest = new Word(MOST_CHARACTERS);

        Row row() {
            return passes;
        }

        void trace(Machine machine, Run run, Box box) {
            passes.empty();
            if (!run.isHalted()) {
                return;
            }
            passes.add(0);
            for (int k = 0; k < run.stepCount(); k++) {
                passStep(machine, run.text(k), box);
            }
            rest.copy(run.text(run.stepCount()));
            for (int length = rest.size(); length > 1; length--) {
                passShorter(box);
            }
            passes.add(box.size() - 1);
        }

        private void passStep(Machine machine, Word text, Box box) {
            int rule = machine.ruleFor(text);
            if (rule == NONE) {
                return;
            }
            int head = text.head();
            boolean right = machine.right[rule];
            boolean atEnd = head + 1 == text.size();
            int ahead = symbolOf(text.at(head - 1));
            pass(text, right ? head : head - 1, head + 2, box.ofRule(rule, right, ahead, atEnd));
        }

        private void passShorter(Box box) {
            int head = rest.head();
            boolean fromAhead = head > 0;
            int gone = fromAhead ? head - 1 : head + 1;
            int number = box.firstEnding() + (fromAhead ? 0 : SYMBOLS) + symbolOf(rest.at(gone));
            pass(rest, Math.min(head, gone), Math.max(head, gone) + 1, number);
            rest.remove(gone);
        }

        /** The domino replaces what stands from .. to - 1; the # counts as standing at the end of the text. */
        private void pass(Word text, int from, int to, int number) {
            copySymbols(text, 0, from);
            passes.add(number);
            copySymbols(text, to, text.size());
            if (to <= text.size()) {
                passes.add(HASH_DOMINO);
            }
        }

        private void copySymbols(Word text, int from, int to) {
            for (int i = from; i < to; i++) {
                passes.add(FIRST_COPY + symbolOf(text.at(i)));
            }
        }
    }

    /**
     * The search. Rows stand in the order in which they are looked at; each is held as the row that
     * it goes on from, its last domino, and what its lower word has more than its upper one.
     *
     * <p>The upper word is never the longer one here: domino 0 gives the lower word a # more, only
     * (h # #, #) takes one away, and where it takes the last one away and fits, both words end with
     * it. So a row is a solution just if its lower word has nothing more.
     */
    private static final class Hunt {
        // One row more than fuel is enough to tell that there is one left.
        private static final int ROOM = MOST_FUEL + 1;

        private final int[] from = new int[ROOM];
        private final int[] last = new int[ROOM];
        private final int[] size = new int[ROOM];
        private final int[] ahead = new int[ROOM];
        private final char[] more = new char[ROOM * MOST_AHEAD];
        private final Word open = new Word(MOST_AHEAD);
        private int count;
        private int lookedAt = NONE;

        int lookedAt() {
            return lookedAt;
        }

        void forget() {
            lookedAt = NONE;
        }

        int look(Box box, int fuel) {
            lookedAt = 0;
            count = 0;
            open.empty();
            keep(NONE, 0, box.get(0));
            for (int at = 0; at < count && at < fuel; at++) {
                lookedAt = at + 1;
                if (ahead[at] == 0) {
                    return FOUND;
                }
                goOn(at, box);
            }
            return lookedAt < count ? OUT : EMPTY;
        }

        int foundSize() {
            return lookedAt > 0 ? size[lookedAt - 1] : 0;
        }

        void layFound(Row row) {
            row.empty();
            int at = lookedAt - 1;
            for (int i = foundSize(); i > 0 && at >= 0; i--) {
                row.add(last[at]);
                at = from[at];
            }
            row.turn();
        }

        /** A beginning of a row that fits fits too, so going on from those that fit finds all. */
        private void goOn(int at, Box box) {
            if (ahead[at] > MOST_AHEAD) {
                return;
            }
            open.empty();
            for (int i = 0; i < ahead[at]; i++) {
                open.add(more[at * MOST_AHEAD + i]);
            }
            for (int d = 0; d < box.size() && count < ROOM; d++) {
                if (fits(box.get(d))) {
                    keep(at, d, box.get(d));
                }
            }
        }

        private boolean fits(Domino domino) {
            int shared = Math.min(domino.upper.size(), open.size() + domino.lower.size());
            for (int i = 0; i < shared; i++) {
                if (domino.upper.at(i) != openOr(domino.lower, i)) {
                    return false;
                }
            }
            return true;
        }

        private void keep(int before, int number, Domino domino) {
            int shared = domino.upper.size();
            from[count] = before;
            last[count] = number;
            size[count] = before == NONE ? 1 : size[before] + 1;
            ahead[count] = open.size() + domino.lower.size() - shared;
            // None goes on from a row that is too far ahead, so no more than that needs a place.
            int kept = Math.min(ahead[count], MOST_AHEAD);
            for (int i = 0; i < kept; i++) {
                more[count * MOST_AHEAD + i] = openOr(domino.lower, shared + i);
            }
            count++;
        }

        /** Character i of what is open with a lower text behind it. */
        private char openOr(Word lower, int i) {
            return i < open.size() ? open.at(i) : lower.at(i - open.size());
        }
    }
}
