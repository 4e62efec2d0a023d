import java.util.NoSuchElementException;

/**
 * Scores in levels, the texts that tell them, and a plan whose rules are priced with them.
 *
 * <p>All rows are made with the object and used again, so that no call makes a new one.
 */
public final class LevelScores {
    public static final int NONE = -1, UNKNOWN = -2, OUTSIDE = -3, FULL = -4, NULL = -11, CAST = -12, INDEX = -13, SIZE = -14, DIVIDE = -15, WRAP = -16;

    private static final int SIMPLE = 0, TWO = 1, THREE = 2, BENT = 3;
    /** The shape of a number that has NOTHING. */
    private static final int NO_SHAPE = -1;

    private static final int MOST_SCORES = 60, MOST_RULES = 12, MOST_KEPT = 5, MOST_TAPE = 300;
    private static final int MOST_ON_A_SIDE = 6, MOST_LEVELS = 12;
    private static final int MOST_COUNT = 1000000;
    private static final int MOST_DIGITS = 19;
    /** Twelve numbers of 20 bytes, five slashes in each bracket, and the 13 bytes of []hard/[]soft. */
    private static final int MOST_OUT = 263;

    /** A failure's absence; no failure has this number. */
    private static final int FINE = 0;
    /** What read() answers for a fault at place 0. */
    private static final int FAULT = -100;

    private final Score[] scores;
    private int numbers;
    private final Tape tape;
    private final Page page;
    private final Plan thePlan;
    private final Wide wide;

    public LevelScores() {
        scores = new Score[MOST_SCORES];
        for (int i = 0; i < MOST_SCORES; i++) {
            scores[i] = new Score();
        }
        tape = new Tape();
        page = new Page();
        thePlan = new Plan();
        wide = new Wide();
    }

    public int make(int shape, int h, int s) {
        if (shape < SIMPLE || shape > BENT) {
            return OUTSIDE;
        }
        if (shape == BENT && (h > MOST_ON_A_SIDE || s > MOST_ON_A_SIDE || h == 0 && s == 0)) {
            return OUTSIDE;
        }
        if (isFull()) {
            return FULL;
        }
        if (shape == BENT && (h < 0 || s < 0)) {
            return SIZE;
        }
        Score made = scores[numbers];
        if (shape == BENT) {
            made.form(BENT, h, h + s);
        } else {
            made.form(shape, shape == SIMPLE ? 0 : 1, shape + 1);
        }
        made.clear();
        return takeNumber();
    }

    public int nothing() {
        if (isFull()) {
            return FULL;
        }
        scores[numbers].form(NO_SHAPE, 0, 0);
        return takeNumber();
    }

    public int set(int score, int level, long v) {
        if (!isNumber(score)) {
            return UNKNOWN;
        }
        if (scores[score].isNothing()) {
            return NULL;
        }
        if (!scores[score].hasLevel(level)) {
            return INDEX;
        }
        scores[score].levels[level] = v;
        return 1;
    }

    public long at(int score, int level) throws IndexOutOfBoundsException, NoSuchElementException {
        if (!isNumber(score)) {
            throw new IndexOutOfBoundsException("no such score");
        }
        if (scores[score].isNothing()) {
            throw new NoSuchElementException("the number has nothing");
        }
        if (!scores[score].hasLevel(level)) {
            throw new IndexOutOfBoundsException("no such level");
        }
        return scores[score].levels[level];
    }

    public int told(int score, int what) {
        if (!isNumber(score)) {
            return UNKNOWN;
        }
        if (what < 0 || what > 3) {
            return OUTSIDE;
        }
        Score asked = scores[score];
        if (asked.isNothing()) {
            return NULL;
        }
        switch (what) {
            case 0:
                return asked.shape;
            case 1:
                return asked.hard;
            case 2:
                return asked.size;
            default:
                return asked.isFeasible() ? 1 : 0;
        }
    }

    public int act(int act, int a, int b) {
        if (!isNumber(a) || !isNumber(b)) {
            return UNKNOWN;
        }
        if (act < 0 || act > 5) {
            return OUTSIDE;
        }
        if (isFull()) {
            return FULL;
        }
        int failure = failureOfPair(scores[a], scores[b]);
        if (failure != FINE) {
            return failure;
        }
        return combine(act, scores[a], scores[b], scores[numbers]) ? takeNumber() : WRAP;
    }

    public int times(int score, int up, int down) {
        if (!isNumber(score)) {
            return UNKNOWN;
        }
        if (isFull()) {
            return FULL;
        }
        if (scores[score].isNothing()) {
            return NULL;
        }
        if (down == 0) {
            return DIVIDE;
        }
        return scale(scores[score], up, down, scores[numbers]) ? takeNumber() : WRAP;
    }

    public int order(int a, int b) {
        if (!isNumber(a) || !isNumber(b)) {
            return UNKNOWN;
        }
        int failure = failureOfPair(scores[a], scores[b]);
        if (failure != FINE) {
            return failure;
        }
        return scores[a].compareWith(scores[b]) + 2;
    }

    // ---- texts

    public int put(int c) {
        if (c < 0 || c > 127) {
            return OUTSIDE;
        }
        if (tape.length >= MOST_TAPE) {
            return FULL;
        }
        tape.append(c);
        return tape.length;
    }

    public int read() {
        if (isFull()) {
            tape.length = 0;
            return FULL;
        }
        boolean isText = tape.parse(scores[numbers]);
        tape.length = 0;
        return isText ? takeNumber() : FAULT - tape.place;
    }

    public int print(int score) {
        if (!isNumber(score)) {
            return UNKNOWN;
        }
        if (scores[score].isNothing()) {
            return NULL;
        }
        page.write(scores[score]);
        return page.length;
    }

    public int out(int i) {
        return i >= 0 && i < page.length ? page.bytes[i] : NONE;
    }

    // ---- the plan

    public int plan(int score) {
        if (!isNumber(score)) {
            return UNKNOWN;
        }
        if (scores[score].isNothing()) {
            return NULL;
        }
        int before = thePlan.rules;
        thePlan.begin(scores[score]);
        return before;
    }

    public int rule(int score) {
        if (!isNumber(score)) {
            return UNKNOWN;
        }
        if (thePlan.rules >= MOST_RULES) {
            return FULL;
        }
        int failure = failureOfPair(scores[score], thePlan.pattern);
        if (failure != FINE) {
            return failure;
        }
        return thePlan.addRule(scores[score]);
    }

    public int count(int rule, int n) {
        if (!thePlan.hasRule(rule)) {
            return UNKNOWN;
        }
        if (!isCount(n)) {
            return OUTSIDE;
        }
        int before = thePlan.counts[rule];
        return thePlan.changeCount(rule, n) ? before : WRAP;
    }

    public int weight(int rule, int score) {
        if (!thePlan.hasRule(rule) || !isNumber(score)) {
            return UNKNOWN;
        }
        int failure = failureOfPair(scores[score], thePlan.pattern);
        if (failure != FINE) {
            return failure;
        }
        return thePlan.changeWeight(rule, scores[score]) ? 1 : WRAP;
    }

    public int total(int rule) {
        if (rule != NONE && !thePlan.hasRule(rule)) {
            return UNKNOWN;
        }
        if (isFull()) {
            return FULL;
        }
        if (rule == NONE) {
            thePlan.sumInto(scores[numbers]);
        } else {
            thePlan.partInto(rule, scores[numbers]);
        }
        return takeNumber();
    }

    public int safe(int n) {
        if (!isCount(n)) {
            return OUTSIDE;
        }
        return thePlan.bears(n) ? 1 : 0;
    }

    public int keep(int score) {
        if (!isNumber(score)) {
            return UNKNOWN;
        }
        int failure = failureOfPair(scores[score], thePlan.pattern);
        if (failure != FINE) {
            return failure;
        }
        return thePlan.admit(scores[score]);
    }

    public int kept(int k) {
        if (k < 0 || k >= thePlan.held) {
            return UNKNOWN;
        }
        if (isFull()) {
            return FULL;
        }
        scores[numbers].copy(thePlan.best[k]);
        return takeNumber();
    }

    public int many(int what) {
        switch (what) {
            case 0:
                return numbers;
            case 1:
                return thePlan.rules;
            case 2:
                return thePlan.held;
            case 3:
                return tape.length;
            case 4:
                return page.length;
            default:
                return OUTSIDE;
        }
    }

    public int drop() {
        if (numbers == 0) {
            return UNKNOWN;
        }
        numbers--;
        return numbers;
    }

    // ---- what the calls share

    private boolean isNumber(int score) {
        return score >= 0 && score < numbers;
    }

    private boolean isFull() {
        return numbers >= MOST_SCORES;
    }

    private static boolean isCount(int n) {
        return n >= 0 && n <= MOST_COUNT;
    }

    /** The score behind the last number, which a call has filled, gets the next number. */
    private int takeNumber() {
        numbers++;
        return numbers - 1;
    }

    private static int failureOfPair(Score a, Score b) {
        if (a.isNothing() || b.isNothing()) {
            return NULL;
        }
        return a.isLike(b) ? FINE : CAST;
    }

    /** Whether no level wraps. */
    private static boolean combine(int act, Score a, Score b, Score answer) {
        switch (act) {
            case 0:
                return answer.becomeSum(a, b);
            case 1:
                return answer.becomeDifference(a, b);
            case 2:
                answer.copy(a.compareWith(b) < 0 ? b : a);
                return true;
            case 3:
                answer.copy(a.compareWith(b) > 0 ? b : a);
                return true;
            case 4:
                answer.becomeGreaterLevels(a, b);
                return true;
            default:
                answer.becomeLesserLevels(a, b);
                return true;
        }
    }

    /** Whether no level wraps; down is not 0. */
    private boolean scale(Score from, int up, int down, Score answer) {
        // A divisor above 0 is what Wide divides by; as longs, for -2^31 has no opposite among ints.
        long factor = down < 0 ? -(long) up : up;
        long divisor = down < 0 ? -(long) down : down;
        answer.formLike(from);
        for (int level = 0; level < from.size; level++) {
            wide.clear();
            wide.addProduct(from.levels[level], factor);
            wide.divideDown(divisor);
            if (!wide.fits()) {
                return false;
            }
            answer.levels[level] = wide.value();
        }
        return true;
    }

    /** A number that has a SCORE or NOTHING; hard levels first. */
    private static final class Score {
        int shape = NO_SHAPE;
        int hard;
        int size;
        final long[] levels = new long[MOST_LEVELS];

        /** The levels keep what they hold. */
        void form(int newShape, int newHard, int newSize) {
            shape = newShape;
            hard = newHard;
            size = newSize;
        }

        void formLike(Score other) {
            form(other.shape, other.hard, other.size);
        }

        void clear() {
            for (int level = 0; level < size; level++) {
                levels[level] = 0;
            }
        }

        void copy(Score other) {
            formLike(other);
            for (int level = 0; level < size; level++) {
                levels[level] = other.levels[level];
            }
        }

        boolean isNothing() {
            return shape == NO_SHAPE;
        }

        boolean isLike(Score other) {
            return shape == other.shape && hard == other.hard && size == other.size;
        }

        boolean hasLevel(int level) {
            return level >= 0 && level < size;
        }

        boolean isFeasible() {
            for (int level = 0; level < hard; level++) {
                if (levels[level] < 0) {
                    return false;
                }
            }
            return true;
        }

        /** -1 less than a like one, 0 the same, 1 greater. */
        int compareWith(Score other) {
            for (int level = 0; level < size; level++) {
                if (levels[level] != other.levels[level]) {
                    return levels[level] < other.levels[level] ? -1 : 1;
                }
            }
            return 0;
        }

        /** Whether no level wraps. */
        boolean becomeSum(Score a, Score b) {
            formLike(a);
            for (int level = 0; level < size; level++) {
                long x = a.levels[level];
                long y = b.levels[level];
                long sum = x + y;
                // A sum that has neither one's sign has wrapped.
                if (((x ^ sum) & (y ^ sum)) < 0) {
                    return false;
                }
                levels[level] = sum;
            }
            return true;
        }

        /** Whether no level wraps. */
        boolean becomeDifference(Score a, Score b) {
            formLike(a);
            for (int level = 0; level < size; level++) {
                long x = a.levels[level];
                long y = b.levels[level];
                long difference = x - y;
                // Only unlike signs can wrap, and then the first one's sign is lost.
                if (((x ^ y) & (x ^ difference)) < 0) {
                    return false;
                }
                levels[level] = difference;
            }
            return true;
        }

        void becomeGreaterLevels(Score a, Score b) {
            formLike(a);
            for (int level = 0; level < size; level++) {
                levels[level] = Math.max(a.levels[level], b.levels[level]);
            }
        }

        void becomeLesserLevels(Score a, Score b) {
            formLike(a);
            for (int level = 0; level < size; level++) {
                levels[level] = Math.min(a.levels[level], b.levels[level]);
            }
        }
    }

    /** A whole number of 96 bits, exact for a few products of 64 bits by 32: high * 2^32 + low. */
    private static final class Wide {
        private static final long LOW_BITS = 0xFFFFFFFFL;

        private long high;
        /** 0 .. 2^32 - 1, also below 0, so that a division of the halves rounds down. */
        private long low;

        void clear() {
            high = 0;
            low = 0;
        }

        /** The factor is -2^31 .. 2^31. */
        void addProduct(long v, long factor) {
            long lowProduct = (v & LOW_BITS) * factor;
            long lowSum = low + (lowProduct & LOW_BITS);
            high += (v >> 32) * factor + (lowProduct >> 32) + (lowSum >> 32);
            low = lowSum & LOW_BITS;
        }

        /** The divisor is 1 .. 2^31, so that the rest with the low half behind it stays in 63 bits. */
        void divideDown(long divisor) {
            if (divisor < 1) {
                return;
            }
            long rest = Math.floorMod(high, divisor);
            high = Math.floorDiv(high, divisor);
            low = (rest << 32 | low) / divisor;
        }

        boolean fits() {
            return high >= Integer.MIN_VALUE && high <= Integer.MAX_VALUE;
        }

        /** Of one that fits. */
        long value() {
            return high << 32 | low;
        }
    }

    /** THE TAPE, and the reading of it. */
    private static final class Tape {
        private static final int BROKEN = -1;

        private final byte[] bytes = new byte[MOST_TAPE];
        int length;
        /** The next byte to be read; where reading failed, the first byte that spoils the TEXT. */
        int place;

        void append(int c) {
            if (length < bytes.length) {
                bytes[length] = (byte) c;
                length++;
            }
        }

        /** Whether the whole tape is a TEXT, whose SCORE the answer becomes. */
        boolean parse(Score answer) {
            place = 0;
            boolean isText = isNext('[') ? parseBent(answer) : parsePlain(answer);
            return isText && place == length;
        }

        private boolean parsePlain(Score answer) {
            if (!parseNumber(answer, 0)) {
                return false;
            }
            if (place == length) {
                answer.form(SIMPLE, 0, 1);
                return true;
            }
            if (!parseWord("hard/") || !parseNumber(answer, 1)) {
                return false;
            }
            if (!isNext('m')) {
                answer.form(TWO, 1, 2);
                return parseWord("soft");
            }
            answer.form(THREE, 1, 3);
            return parseWord("medium/") && parseNumber(answer, 2) && parseWord("soft");
        }

        /** The next byte is a [. */
        private boolean parseBent(Score answer) {
            place++;
            int hard = parseList(answer, 0);
            if (hard == BROKEN || !parseWord("]hard/[")) {
                return false;
            }
            int soft = parseList(answer, hard);
            // Without any number it is the second ] that spoils the TEXT, so it is left unread.
            if (soft == BROKEN || hard + soft == 0) {
                return false;
            }
            answer.form(BENT, hard, hard + soft);
            return parseWord("]soft");
        }

        /** How many numbers stand ahead of a ], which become the levels from one on; BROKEN. */
        private int parseList(Score answer, int from) {
            int found = 0;
            boolean more = !isNext(']');
            while (more && found < MOST_ON_A_SIDE) {
                if (!parseNumber(answer, from + found)) {
                    return BROKEN;
                }
                found++;
                more = found < MOST_ON_A_SIDE && isNext('/');
                if (more) {
                    place++;
                }
            }
            return found;
        }

        /** A digit too many is left unread: nothing that may follow a number is a digit. */
        private boolean parseNumber(Score answer, int level) {
            boolean isNegative = isNext('-');
            if (isNegative) {
                place++;
            }
            int digit = nextDigit();
            if (digit < (isNegative ? 1 : 0)) {
                return false;
            }
            // Gathered below 0, where there is one number more than above.
            long least = isNegative ? Long.MIN_VALUE : -Long.MAX_VALUE;
            int mostDigits = digit == 0 ? 1 : MOST_DIGITS;
            long value = 0;
            for (int n = 0; n < mostDigits && digit >= 0 && value >= (least + digit) / 10; n++) {
                value = value * 10 - digit;
                place++;
                digit = nextDigit();
            }
            answer.levels[level] = isNegative ? value : -value;
            return true;
        }

        private boolean parseWord(String word) {
            for (int i = 0; i < word.length(); i++) {
                if (!isNext(word.charAt(i))) {
                    return false;
                }
                place++;
            }
            return true;
        }

        private boolean isNext(char c) {
            return place < length && bytes[place] == c;
        }

        /** -1: the next byte is no digit. */
        private int nextDigit() {
            if (place >= length || bytes[place] < '0' || bytes[place] > '9') {
                return -1;
            }
            return bytes[place] - '0';
        }
    }

    /** OUT, and the writing of it. */
    private static final class Page {
        final byte[] bytes = new byte[MOST_OUT];
        int length;
        private final byte[] digits = new byte[MOST_DIGITS];

        void write(Score score) {
            length = 0;
            if (score.shape == BENT) {
                writeBent(score);
            } else {
                writePlain(score);
            }
        }

        private void writePlain(Score score) {
            writeNumber(score.levels[0]);
            if (score.shape == SIMPLE) {
                return;
            }
            writeWord("hard/");
            writeNumber(score.levels[1]);
            if (score.shape == THREE) {
                writeWord("medium/");
                writeNumber(score.levels[2]);
            }
            writeWord("soft");
        }

        private void writeBent(Score score) {
            writeWord("[");
            writeList(score, 0, score.hard);
            writeWord("]hard/[");
            writeList(score, score.hard, score.size);
            writeWord("]soft");
        }

        private void writeList(Score score, int from, int end) {
            for (int level = from; level < end; level++) {
                if (level > from) {
                    append('/');
                }
                writeNumber(score.levels[level]);
            }
        }

        private void writeNumber(long v) {
            // Taken apart below 0, for the least number has no opposite.
            long rest = v < 0 ? v : -v;
            int n = 0;
            do {
                digits[n] = (byte) ('0' - rest % 10);
                rest /= 10;
                n++;
            } while (rest != 0 && n < MOST_DIGITS);
            if (v < 0) {
                append('-');
            }
            for (int i = n - 1; i >= 0; i--) {
                append(digits[i]);
            }
        }

        private void writeWord(String word) {
            for (int i = 0; i < word.length(); i++) {
                append(word.charAt(i));
            }
        }

        private void append(int c) {
            if (length < bytes.length) {
                bytes[length] = (byte) c;
                length++;
            }
        }
    }

    /** THE PLAN: its RULES, and what is KEPT. */
    private static final class Plan {
        /** Of the PLAN's SHAPE; its levels mean nothing. */
        final Score pattern = new Score();
        private final Score[] weights = new Score[MOST_RULES];
        final int[] counts = new int[MOST_RULES];
        int rules;
        /** The greatest first. */
        final Score[] best = new Score[MOST_KEPT];
        int held;
        /** Trades places with a weight while a change is tried. */
        private Score spare = new Score();
        private final Wide sum = new Wide();
        private final Wide part = new Wide();

        Plan() {
            pattern.form(SIMPLE, 0, 1);
            for (int i = 0; i < MOST_RULES; i++) {
                weights[i] = new Score();
            }
            for (int i = 0; i < MOST_KEPT; i++) {
                best[i] = new Score();
            }
        }

        void begin(Score like) {
            pattern.formLike(like);
            rules = 0;
            held = 0;
        }

        boolean hasRule(int rule) {
            return rule >= 0 && rule < rules;
        }

        /** There is room for one. */
        int addRule(Score weight) {
            weights[rules].copy(weight);
            counts[rules] = 0;
            rules++;
            return rules - 1;
        }

        /** Whether all prices fit then; if not, nothing changes. */
        boolean changeCount(int rule, int n) {
            int before = counts[rule];
            counts[rule] = n;
            if (!allFit()) {
                counts[rule] = before;
                return false;
            }
            return true;
        }

        /** Whether all prices fit then; if not, nothing changes. */
        boolean changeWeight(int rule, Score weight) {
            spare.copy(weight);
            tradeSpare(rule);
            if (!allFit()) {
                tradeSpare(rule);
                return false;
            }
            return true;
        }

        private void tradeSpare(int rule) {
            Score before = weights[rule];
            weights[rule] = spare;
            spare = before;
        }

        private boolean allFit() {
            for (int level = 0; level < pattern.size; level++) {
                if (!fitsAt(level)) {
                    return false;
                }
            }
            return true;
        }

        private boolean fitsAt(int level) {
            for (int rule = 0; rule < rules; rule++) {
                pricePart(rule, level);
                if (!part.fits()) {
                    return false;
                }
            }
            priceSum(level);
            return sum.fits();
        }

        private void pricePart(int rule, int level) {
            part.clear();
            part.addProduct(weights[rule].levels[level], counts[rule]);
        }

        private void priceSum(int level) {
            sum.clear();
            for (int rule = 0; rule < rules; rule++) {
                sum.addProduct(weights[rule].levels[level], counts[rule]);
            }
        }

        void sumInto(Score answer) {
            answer.formLike(pattern);
            for (int level = 0; level < pattern.size; level++) {
                priceSum(level);
                answer.levels[level] = sum.value();
            }
        }

        void partInto(int rule, Score answer) {
            answer.formLike(pattern);
            for (int level = 0; level < pattern.size; level++) {
                pricePart(rule, level);
                answer.levels[level] = part.value();
            }
        }

        /** Whether all prices fit, whatever the counts up to n. */
        boolean bears(int n) {
            for (int level = 0; level < pattern.size; level++) {
                if (!bearsAt(level, n, true) || !bearsAt(level, n, false)) {
                    return false;
                }
            }
            return true;
        }

        /** No price is further out than the sum of all weights of one sign, each n times. */
        private boolean bearsAt(int level, int n, boolean upwards) {
            sum.clear();
            for (int rule = 0; rule < rules; rule++) {
                long v = weights[rule].levels[level];
                if (v > 0 == upwards) {
                    sum.addProduct(v, n);
                }
            }
            return sum.fits();
        }

        /** The place that a copy of the score gets; NONE, if it gets none. */
        int admit(Score score) {
            int place = 0;
            while (place < held && best[place].compareWith(score) >= 0) {
                place++;
            }
            if (place >= MOST_KEPT) {
                return NONE;
            }
            if (held < MOST_KEPT) {
                held++;
            }
            Score moved = best[held - 1];
            for (int i = held - 1; i > place; i--) {
                best[i] = best[i - 1];
            }
            best[place] = moved;
            moved.copy(score);
            return place;
        }
    }
}
