import java.util.Arrays;

/**
 * Formulas about moments without end: read from text, looked at state by state, walked to a word
 * that goes round in the end, and judged on any such word that is given.
 */
public final class LassoDesk {
    public static final int NONE = -1;

    private static final int MAX_LINE = 18;
    private static final int MAX_TEMPORALS = 5;
    private static final int MAX_BRACKETS = 4;
    private static final int MAX_STEM = 8;
    private static final int MAX_LOOP = 8;
    private static final int LETTER_BITS = 3;
    private static final int LETTERS = 1 << LETTER_BITS;
    private static final int MAX_STATES = LETTERS << MAX_TEMPORALS;

    private final Line line;
    private final Lasting lastingStates;
    private final Walk walk;
    private final GivenWord word;
    private Formula current;
    private Formula draft;
    private boolean formed;
    private boolean settled;

    public LassoDesk() {
        line = new Line();
        lastingStates = new Lasting();
        walk = new Walk();
        word = new GivenWord();
        current = new Formula();
        draft = new Formula();
        formed = false;
        settled = false;
    }

    public boolean type(int four) throws IllegalArgumentException {
        int count = Line.countTyped(four);
        if (!Line.areVisible(four, count)) {
            throw new IllegalArgumentException("a character is not 33 .. 126");
        }
        return line.append(four, count);
    }

    public int formula() throws IllegalArgumentException {
        boolean isFormula = line.readInto(draft);
        line.clear();
        if (!isFormula) {
            throw new IllegalArgumentException("the line is no formula");
        }
        Formula old = current;
        current = draft;
        draft = old;
        formed = true;
        settled = false;
        return current.size();
    }

    public int states() throws IllegalStateException {
        requireFormula();
        return current.stateCount();
    }

    public boolean isAt(int state) throws IllegalStateException, IndexOutOfBoundsException {
        requireFormula();
        requireState(state);
        return current.isWholeIn(current.partsAt(state));
    }

    public boolean leads(int from, int to) throws IllegalStateException, IndexOutOfBoundsException {
        requireFormula();
        requireState(from);
        requireState(to);
        return (from >> LETTER_BITS) == current.expectedBefore(current.partsAt(to));
    }

    public boolean lasts(int state) throws IllegalStateException, IndexOutOfBoundsException {
        requireFormula();
        requireState(state);
        settle();
        return lastingStates.has(state);
    }

    public int lasting() throws IllegalStateException {
        requireFormula();
        settle();
        return lastingStates.size();
    }

    public int promises() throws IllegalStateException {
        requireFormula();
        return current.promiseCount();
    }

    public boolean can() throws IllegalStateException {
        requireFormula();
        settle();
        return walk.exists();
    }

    public int stem() throws IllegalStateException {
        requireFormula();
        settle();
        return walk.stemLength();
    }

    public int loop() throws IllegalStateException {
        requireFormula();
        settle();
        return walk.loopLength();
    }

    public int step(int k) throws IllegalStateException, IndexOutOfBoundsException {
        requireFormula();
        settle();
        if (!walk.exists()) {
            throw new IllegalStateException("there is no walk");
        }
        if (k < 0 || k >= walk.size()) {
            throw new IndexOutOfBoundsException("the walk has no such state");
        }
        return walk.stateAt(k);
    }

    public void shape(int stem, int loop) throws IllegalArgumentException {
        if (!GivenWord.fits(stem, loop)) {
            throw new IllegalArgumentException("the stem is not 0 .. 8 or the loop not 1 .. 8");
        }
        word.reshape(stem, loop);
    }

    public int set(int k, int letter) throws IndexOutOfBoundsException {
        if (k < 0 || k >= word.size()) {
            throw new IndexOutOfBoundsException("the given word has no such letter");
        }
        return word.replace(k, letter);
    }

    public boolean adopt() throws IllegalStateException {
        requireFormula();
        settle();
        if (!walk.exists() || !GivenWord.fits(walk.stemLength(), walk.loopLength())) {
            return false;
        }
        word.take(walk);
        return true;
    }

    public int letter(int k) throws IndexOutOfBoundsException {
        requirePlace(k);
        return word.letterAt(k);
    }

    public boolean holds(int k) throws IllegalStateException, IndexOutOfBoundsException {
        requireFormula();
        requirePlace(k);
        return hasBit(current.placesOn(word), word.indexOf(k));
    }

    private void requireFormula() {
        if (!formed) {
            throw new IllegalStateException("there is no formula");
        }
    }

    private void requireState(int state) {
        if (state < 0 || state >= current.stateCount()) {
            throw new IndexOutOfBoundsException("there is no such state");
        }
    }

    private void requirePlace(int k) {
        if (k < 0) {
            throw new IndexOutOfBoundsException("a place is not below 0");
        }
    }

    /** The dear work waits for the first call that asks for it, and is done once for a formula. */
    private void settle() {
        if (!settled) {
            lastingStates.find(current);
            walk.go(lastingStates);
            settled = true;
        }
    }

    private static boolean hasBit(int bits, int i) {
        return ((bits >> i) & 1) != 0;
    }

    private static boolean isTemporal(int sign) {
        return sign == 'X' || sign == 'F' || sign == 'G' || sign == 'U' || sign == 'R';
    }

    /**
     * The line that is typed, and its reading by descent. A call of the reading goes deeper only
     * behind a character that it has taken, or by the few levels from a bracket to what stands in
     * it: a line of 18 characters, with four open brackets at most, keeps the calls that stand open
     * at once below sixty.
     */
    private static final class Line {
        private static final int BYTES = 4;
        private static final int CHAIN = 0;
        private static final int EITHER = 1;
        private static final int BOTH = 2;
        private static final int LONG = 3;
        private static final int SIMPLE = 4;

        private final char[] characters;
        private int length;
        private int at;

        Line() {
            characters = new char[MAX_LINE];
            length = 0;
            at = 0;
        }

        static int countTyped(int four) {
            int count = 0;
            while (count < BYTES && byteOf(four, count) != 0) {
                count++;
            }
            return count;
        }

        static boolean areVisible(int four, int count) {
            for (int i = 0; i < count; i++) {
                int code = byteOf(four, i);
                if (code < 33 || code > 126) {
                    return false;
                }
            }
            return true;
        }

        private static int byteOf(int four, int i) {
            return (four >>> (8 * i)) & 255;
        }

        boolean append(int four, int count) {
            if (length + count > MAX_LINE) {
                return false;
            }
            for (int i = 0; i < count; i++) {
                characters[length + i] = (char) byteOf(four, i);
            }
            length += count;
            return true;
        }

        void clear() {
            length = 0;
        }

        /** The character at a place, 0 behind the end: no character of a line is 0. */
        private int signAt(int place) {
            return place >= 0 && place < length ? characters[place] : 0;
        }

        private int temporalsBefore(int place) {
            int count = 0;
            for (int i = 0; i < place; i++) {
                if (isTemporal(signAt(i))) {
                    count++;
                }
            }
            return count;
        }

        /** Whether the whole line is a formula, which then stands in the one handed over. */
        boolean readInto(Formula into) {
            into.clear();
            at = 0;
            if (temporalsBefore(length) > MAX_TEMPORALS) {
                return false;
            }
            int whole = readLevel(into, CHAIN, 0);
            if (whole == NONE || at != length) {
                return false;
            }
            into.listPromises();
            return true;
        }

        /**
         * The part that begins here, NONE when there is none. Every level is joined from the right:
         * for | and & it makes no difference, for the others the document asks it.
         */
        private int readLevel(Formula into, int level, int brackets) {
            if (level >= SIMPLE) {
                return readSimple(into, brackets);
            }
            int first = readLevel(into, level + 1, brackets);
            int sign = signAt(at);
            if (first == NONE || levelJoinedBy(sign) != level) {
                return first;
            }
            int number = temporalsBefore(at);
            at++;
            int rest = readLevel(into, level, brackets);
            return rest == NONE ? NONE : into.add(sign, first, rest, number);
        }

        private int readSimple(Formula into, int brackets) {
            int sign = signAt(at);
            int number = temporalsBefore(at);
            at++;
            switch (sign) {
                case '0': case '1': case 'a': case 'b': case 'c':
                    return into.add(sign, 0, 0, number);
                case '!': case 'X': case 'F': case 'G':
                    int of = readSimple(into, brackets);
                    return of == NONE ? NONE : into.add(sign, of, of, number);
                case '(':
                    return brackets >= MAX_BRACKETS ? NONE : readBracket(into, brackets + 1);
                default:
                    return NONE;
            }
        }

        private int readBracket(Formula into, int brackets) {
            int inner = readLevel(into, CHAIN, brackets);
            if (signAt(at) != ')') {
                return NONE;
            }
            at++;
            return inner;
        }

        private static int levelJoinedBy(int sign) {
            switch (sign) {
                case '>':
                    return CHAIN;
                case '|':
                    return EITHER;
                case '&':
                    return BOTH;
                case 'U': case 'R':
                    return LONG;
                default:
                    return NONE;
            }
        }
    }

    /**
     * The parts of a formula, each behind those that it joins, the whole formula last. What is so
     * of all parts at once is one number, with a bit for each part. A part that joins only one has
     * it on both sides.
     */
    private static final class Formula {
        private final int[] sign;
        private final int[] left;
        private final int[] right;
        private final int[] number;
        private final int[] temporalPart;
        private final int[] promisePart;
        private final int[] places;
        private int size;
        private int temporals;
        private int promised;

        Formula() {
            sign = new int[MAX_LINE];
            left = new int[MAX_LINE];
            right = new int[MAX_LINE];
            number = new int[MAX_LINE];
            temporalPart = new int[MAX_TEMPORALS];
            promisePart = new int[MAX_TEMPORALS];
            places = new int[MAX_LINE];
            size = 0;
            temporals = 0;
            promised = 0;
        }

        void clear() {
            size = 0;
            temporals = 0;
            promised = 0;
        }

        /** Puts a part behind the others; its number counts only if it is a temporal one. */
        int add(int partSign, int partLeft, int partRight, int partNumber) {
            if (size >= MAX_LINE) {
                return NONE;
            }
            sign[size] = partSign;
            left[size] = partLeft;
            right[size] = partRight;
            number[size] = partNumber;
            if (isTemporal(partSign) && partNumber < MAX_TEMPORALS) {
                temporalPart[partNumber] = size;
                temporals++;
            }
            size++;
            return size - 1;
        }

        void listPromises() {
            promised = 0;
            for (int i = 0; i < temporals && i < MAX_TEMPORALS; i++) {
                if (sign[temporalPart[i]] != 'X') {
                    promisePart[promised] = temporalPart[i];
                    promised++;
                }
            }
        }

        int size() {
            return size;
        }

        int stateCount() {
            return LETTERS << temporals;
        }

        int promiseCount() {
            return promised;
        }

        boolean isWholeIn(int so) {
            return hasBit(so, size - 1);
        }

        int partsAt(int state) {
            int so = 0;
            for (int part = 0; part < size; part++) {
                if (isPartAt(part, state, so)) {
                    so |= 1 << part;
                }
            }
            return so;
        }

        private boolean isPartAt(int part, int state, int so) {
            boolean p = hasBit(so, left[part]);
            boolean q = hasBit(so, right[part]);
            boolean expected = hasBit(state, LETTER_BITS + number[part]);
            switch (sign[part]) {
                case '1':
                    return true;
                case 'a':
                    return hasBit(state, 0);
                case 'b':
                    return hasBit(state, 1);
                case 'c':
                    return hasBit(state, 2);
                case '!':
                    return !q;
                case '&':
                    return p && q;
                case '|':
                    return p || q;
                case '>':
                    return !p || q;
                case 'X':
                    return expected;
                case 'F':
                    return q || expected;
                case 'G':
                    return q && expected;
                case 'U':
                    return q || (p && expected);
                case 'R':
                    return q && (p || expected);
                default:
                    return false;
            }
        }

        /** The expectations, a bit each, of the states that lead to one where this is so. */
        int expectedBefore(int so) {
            int expected = 0;
            for (int i = 0; i < temporals; i++) {
                int part = temporalPart[i];
                if (hasBit(so, sign[part] == 'X' ? right[part] : part)) {
                    expected |= 1 << i;
                }
            }
            return expected;
        }

        int openIn(int so) {
            int open = 0;
            for (int i = 0; i < promised; i++) {
                int part = promisePart[i];
                if (hasBit(so, part) == isForOnce(part)) {
                    open |= 1 << i;
                }
            }
            return open;
        }

        int keptIn(int so) {
            int kept = 0;
            for (int i = 0; i < promised; i++) {
                int part = promisePart[i];
                if (hasBit(so, right[part]) == isForOnce(part)) {
                    kept |= 1 << i;
                }
            }
            return kept;
        }

        /** F and U promise that something comes once; G and R, where they are not so, that it fails once. */
        private boolean isForOnce(int part) {
            return sign[part] == 'F' || sign[part] == 'U';
        }

        /** The places of the given word, a bit each, at which the whole formula is so. */
        int placesOn(GivenWord word) {
            for (int part = 0; part < size; part++) {
                places[part] = partPlaces(part, word);
            }
            return size == 0 ? 0 : places[size - 1];
        }

        private int partPlaces(int part, GivenWord word) {
            int all = word.allPlaces();
            int p = places[left[part]];
            int q = places[right[part]];
            switch (sign[part]) {
                case '1':
                    return all;
                case 'a':
                    return word.placesWith(0);
                case 'b':
                    return word.placesWith(1);
                case 'c':
                    return word.placesWith(2);
                case '!':
                    return all & ~q;
                case '&':
                    return p & q;
                case '|':
                    return p | q;
                case '>':
                    return (all & ~p) | q;
                case 'X':
                    return word.placesBefore(q);
                case 'F':
                    return word.placesUntil(all, q);
                case 'G':
                    return all & ~word.placesUntil(all, all & ~q);
                case 'U':
                    return word.placesUntil(p, q);
                case 'R':
                    return all & ~word.placesUntil(all & ~p, all & ~q);
                default:
                    return 0;
            }
        }
    }

    /**
     * What is so at each state, and which states last. A state leads to all those whose needed
     * expectations are its own, so the eight states with the same expectations lead to the same ones.
     */
    private static final class Lasting {
        private final int[] needed;
        private final int[] kept;
        private final int[] pending;
        private final boolean[] whole;
        private final boolean[] inSet;
        private final int[] steps;
        private final int[] queue;
        private int states;
        private int promised;
        private int count;

        Lasting() {
            needed = new int[MAX_STATES];
            kept = new int[MAX_STATES];
            pending = new int[MAX_STATES];
            whole = new boolean[MAX_STATES];
            inSet = new boolean[MAX_STATES];
            steps = new int[MAX_TEMPORALS * MAX_STATES];
            queue = new int[MAX_STATES];
            states = 0;
            promised = 0;
            count = 0;
        }

        /**
         * Begins with all states and takes away those that can't be in the set, until a sweep takes
         * none: the steps that this last sweep has counted are those within the lasting states.
         */
        void find(Formula formula) {
            lookAtStates(formula);
            boolean shrinks = true;
            for (int sweeps = 0; shrinks && sweeps <= MAX_STATES; sweeps++) {
                int before = count;
                sweepDeadEnds();
                for (int promise = 0; promise < promised; promise++) {
                    countSteps(promise);
                    sweepUnkept(promise);
                }
                shrinks = count < before;
            }
        }

        private void lookAtStates(Formula formula) {
            states = formula.stateCount();
            promised = formula.promiseCount();
            count = states;
            for (int state = 0; state < states; state++) {
                int so = formula.partsAt(state);
                needed[state] = formula.expectedBefore(so);
                kept[state] = formula.keptIn(so);
                pending[state] = formula.openIn(so) & ~kept[state];
                whole[state] = formula.isWholeIn(so);
                inSet[state] = true;
            }
        }

        /** Of the 32 rows of expectations at most, a bit says which one some state of the set needs. */
        private void sweepDeadEnds() {
            int answered = 0;
            for (int state = 0; state < states; state++) {
                if (inSet[state]) {
                    answered |= 1 << needed[state];
                }
            }
            for (int state = 0; state < states; state++) {
                if (inSet[state] && !hasBit(answered, state >> LETTER_BITS)) {
                    takeAway(state);
                }
            }
        }

        private void sweepUnkept(int promise) {
            for (int state = 0; state < states; state++) {
                if (inSet[state] && hasBit(pending[state], promise) && stepsFrom(state, promise) == NONE) {
                    takeAway(state);
                }
            }
        }

        private void takeAway(int state) {
            inSet[state] = false;
            count--;
        }

        /** Counts, backwards from the states where the promise is kept, the steps within the set. */
        private void countSteps(int promise) {
            int row = promise * MAX_STATES;
            int reached = 0;
            for (int state = 0; state < states; state++) {
                boolean isGoal = inSet[state] && hasBit(kept[state], promise);
                steps[row + state] = isGoal ? 0 : NONE;
                if (isGoal) {
                    queue[reached] = state;
                    reached++;
                }
            }
            for (int i = 0; i < reached && i < states; i++) {
                reached = reachBefore(queue[i], row, reached);
            }
        }

        private int reachBefore(int to, int row, int alreadyReached) {
            int reached = alreadyReached;
            int first = needed[to] << LETTER_BITS;
            for (int from = first; from < first + LETTERS; from++) {
                if (inSet[from] && steps[row + from] == NONE) {
                    steps[row + from] = steps[row + to] + 1;
                    queue[reached] = from;
                    reached++;
                }
            }
            return reached;
        }

        private int stepsFrom(int state, int promise) {
            return steps[promise * MAX_STATES + state];
        }

        boolean has(int state) {
            return inSet[state];
        }

        int size() {
            return count;
        }

        int leastWhole() {
            for (int state = 0; state < states; state++) {
                if (inSet[state] && whole[state]) {
                    return state;
                }
            }
            return NONE;
        }

        /** The duty with which the walk goes on from a state that it comes to with another one. */
        int dutyFrom(int state, int duty) {
            int next = duty;
            for (int i = 0; i < promised; i++) {
                if (hasBit(pending[state], next)) {
                    return next;
                }
                next = next + 1 < promised ? next + 1 : 0;
            }
            return duty;
        }

        int nextFrom(int state, int duty) {
            boolean isPending = hasBit(pending[state], duty);
            int best = NONE;
            for (int to = 0; to < states; to++) {
                boolean leadsThere = inSet[to] && needed[to] == (state >> LETTER_BITS);
                if (leadsThere && (best == NONE || (isPending && isNearer(to, best, duty)))) {
                    best = to;
                }
            }
            return best;
        }

        private boolean isNearer(int state, int other, int promise) {
            int far = stepsFrom(other, promise);
            int near = stepsFrom(state, promise);
            return near != NONE && (far == NONE || near < far);
        }
    }

    /** The walk through the lasting states: its stem, and its loop behind it. */
    private static final class Walk {
        private static final int MAX_PAIRS = MAX_STATES * MAX_TEMPORALS;

        private final int[] row;
        private final int[] cameAt;
        private int stemLength;
        private int loopLength;

        Walk() {
            row = new int[MAX_PAIRS + 1];
            cameAt = new int[MAX_PAIRS];
            stemLength = NONE;
            loopLength = NONE;
        }

        void go(Lasting lasting) {
            stemLength = NONE;
            loopLength = NONE;
            Arrays.fill(cameAt, NONE);
            int state = lasting.leastWhole();
            int duty = 0;
            for (int length = 0; length <= MAX_PAIRS && state != NONE; length++) {
                duty = lasting.dutyFrom(state, duty);
                int pair = state * MAX_TEMPORALS + duty;
                if (cameAt[pair] != NONE) {
                    stemLength = cameAt[pair];
                    loopLength = length - stemLength;
                    return;
                }
                cameAt[pair] = length;
                row[length] = state;
                state = lasting.nextFrom(state, duty);
            }
        }

        boolean exists() {
            return stemLength != NONE;
        }

        int stemLength() {
            return stemLength;
        }

        int loopLength() {
            return loopLength;
        }

        int size() {
            return exists() ? stemLength + loopLength : 0;
        }

        int stateAt(int k) {
            return row[k];
        }
    }

    /** The given word. Sets of its places are numbers with a bit for each letter of stem and loop. */
    private static final class GivenWord {
        private final int[] letters;
        private int stemLength;
        private int loopLength;

        GivenWord() {
            letters = new int[MAX_STEM + MAX_LOOP];
            stemLength = 0;
            loopLength = 1;
        }

        static boolean fits(int newStem, int newLoop) {
            return newStem >= 0 && newStem <= MAX_STEM && newLoop >= 1 && newLoop <= MAX_LOOP;
        }

        int size() {
            return stemLength + loopLength;
        }

        /** Letters behind the end are always 0, so that a word that grows has nothing old in it. */
        void reshape(int newStem, int newLoop) {
            stemLength = newStem;
            loopLength = newLoop;
            for (int i = size(); i < letters.length; i++) {
                letters[i] = 0;
            }
        }

        int replace(int k, int letter) {
            int old = letters[k];
            letters[k] = letter & (LETTERS - 1);
            return old;
        }

        void take(Walk walk) {
            reshape(walk.stemLength(), walk.loopLength());
            for (int i = 0; i < size(); i++) {
                letters[i] = walk.stateAt(i) & (LETTERS - 1);
            }
        }

        /** Where in stem and loop the letter of a place stands. */
        int indexOf(int place) {
            return place < size() || loopLength < 1 ? place : stemLength + (place - stemLength) % loopLength;
        }

        int letterAt(int place) {
            return letters[indexOf(place)];
        }

        int allPlaces() {
            return (1 << size()) - 1;
        }

        int placesWith(int bit) {
            int with = 0;
            for (int i = 0; i < size(); i++) {
                if (hasBit(letters[i], bit)) {
                    with |= 1 << i;
                }
            }
            return with;
        }

        /** The places whose next place is one of these. */
        int placesBefore(int these) {
            int beforeLoop = hasBit(these, stemLength) ? 1 << (size() - 1) : 0;
            return (these >> 1) | beforeLoop;
        }

        /** Goes back from the goals as often as the word has places: then no place can be added. */
        int placesUntil(int through, int goals) {
            int so = goals;
            for (int i = 0; i < size(); i++) {
                so = goals | (through & placesBefore(so));
            }
            return so;
        }
    }
}
