import java.math.BigInteger;
import java.util.ArrayList;
import java.util.List;
import java.util.regex.Matcher;
import java.util.regex.Pattern;

/** The document written a second time, with BigInteger, lists and patterns, as plainly as can be. */
final class Model {
    static final long THROWS_INDEX = Long.MIN_VALUE + 12345, THROWS_ELEMENT = Long.MIN_VALUE + 12346;
    private static final int NONE = -1, UNKNOWN = -2, OUTSIDE = -3, FULL = -4, NULL = -11, CAST = -12, INDEX = -13, SIZE = -14, DIVIDE = -15, WRAP = -16;
    private static final String NUMBER = "(0|-?[1-9][0-9]*)";
    private static final String LIST = "((?:" + NUMBER + "(?:/" + NUMBER + "){0,5})?)";
    private static final Pattern[] TEXTS = {
        Pattern.compile(NUMBER),
        Pattern.compile(NUMBER + "hard/" + NUMBER + "soft"),
        Pattern.compile(NUMBER + "hard/" + NUMBER + "medium/" + NUMBER + "soft"),
        Pattern.compile("\\[" + LIST + "\\]hard/\\[" + LIST + "\\]soft")
    };
    /** Whatever begins as a text becomes one with an end of one of these behind it. */
    private static final String[] ENDS = {"1hard/1soft", "1hard/1medium/1soft", "[1/1]hard/[1]soft", "[]hard/[1]soft"};

    /** Its levels may be beyond 64 bits, until it is added. */
    private record Score(int shape, int hard, List<BigInteger> levels) {
        boolean isLike(Score other) {
            return shape == other.shape && hard == other.hard && levels.size() == other.levels.size();
        }

        int compare(Score other) {
            for (int i = 0; i < levels.size(); i++) {
                int c = levels.get(i).compareTo(other.levels.get(i));
                if (c != 0) {
                    return c;
                }
            }
            return 0;
        }

        boolean fits() {
            return levels.stream().allMatch(v -> v.bitLength() < 64);
        }
    }

    private record Rule(Score weight, int count) {
        Score part() {
            List<BigInteger> levels = new ArrayList<>();
            for (BigInteger v : weight.levels) {
                levels.add(v.multiply(BigInteger.valueOf(count)));
            }
            return new Score(weight.shape, weight.hard, levels);
        }
    }

    private final List<Score> scores = new ArrayList<>();
    private final StringBuilder tape = new StringBuilder();
    private String out = "";
    private Score pattern = zeros(0, 0, 1);
    private List<Rule> rules = new ArrayList<>();
    private final List<Score> kept = new ArrayList<>();

    private static Score zeros(int shape, int hard, int size) {
        List<BigInteger> levels = new ArrayList<>();
        for (int i = 0; i < size; i++) {
            levels.add(BigInteger.ZERO);
        }
        return new Score(shape, hard, levels);
    }

    private boolean names(int... numbers) {
        for (int n : numbers) {
            if (n < 0 || n >= scores.size()) {
                return false;
            }
        }
        return true;
    }

    private int add(Score score) {
        scores.add(score);
        return scores.size() - 1;
    }

    /** A score that wraps is not added. */
    private int addIfFits(Score score) {
        return score.fits() ? add(score) : WRAP;
    }

    private boolean full() {
        return scores.size() == 60;
    }

    private static int pair(Score a, Score b) {
        return a == null || b == null ? NULL : a.isLike(b) ? 0 : CAST;
    }

    int make(int shape, int h, int s) {
        if (shape < 0 || shape > 3 || shape == 3 && (h > 6 || s > 6 || h == 0 && s == 0)) {
            return OUTSIDE;
        }
        if (full()) {
            return FULL;
        }
        if (shape == 3 && (h < 0 || s < 0)) {
            return SIZE;
        }
        return add(shape == 0 ? zeros(0, 0, 1) : shape == 1 ? zeros(1, 1, 2) : shape == 2 ? zeros(2, 1, 3) : zeros(3, h, h + s));
    }

    int nothing() {
        return full() ? FULL : add(null);
    }

    int set(int score, int level, long v) {
        if (!names(score)) {
            return UNKNOWN;
        }
        Score old = scores.get(score);
        if (old == null) {
            return NULL;
        }
        if (level < 0 || level >= old.levels.size()) {
            return INDEX;
        }
        List<BigInteger> levels = new ArrayList<>(old.levels);
        levels.set(level, BigInteger.valueOf(v));
        scores.set(score, new Score(old.shape, old.hard, levels));
        return 1;
    }

    long at(int score, int level) {
        if (!names(score)) {
            return THROWS_INDEX;
        }
        if (scores.get(score) == null) {
            return THROWS_ELEMENT;
        }
        List<BigInteger> levels = scores.get(score).levels;
        return level < 0 || level >= levels.size() ? THROWS_INDEX : levels.get(level).longValueExact();
    }

    int told(int score, int what) {
        if (!names(score)) {
            return UNKNOWN;
        }
        if (what < 0 || what > 3) {
            return OUTSIDE;
        }
        Score s = scores.get(score);
        if (s == null) {
            return NULL;
        }
        boolean feasible = s.levels.subList(0, s.hard).stream().allMatch(v -> v.signum() >= 0);
        return new int[] {s.shape, s.hard, s.levels.size(), feasible ? 1 : 0}[what];
    }

    int act(int act, int a, int b) {
        if (!names(a, b)) {
            return UNKNOWN;
        }
        if (act < 0 || act > 5) {
            return OUTSIDE;
        }
        if (full()) {
            return FULL;
        }
        Score first = scores.get(a);
        Score second = scores.get(b);
        int failure = pair(first, second);
        if (failure != 0) {
            return failure;
        }
        boolean greater = first.compare(second) > 0;
        if (act == 2 || act == 3) {
            return add(greater == (act == 2) ? first : second);
        }
        List<BigInteger> levels = new ArrayList<>();
        for (int i = 0; i < first.levels.size(); i++) {
            BigInteger x = first.levels.get(i);
            BigInteger y = second.levels.get(i);
            levels.add(act == 0 ? x.add(y) : act == 1 ? x.subtract(y) : act == 4 ? x.max(y) : x.min(y));
        }
        return addIfFits(new Score(first.shape, first.hard, levels));
    }

    int times(int score, int up, int down) {
        if (!names(score)) {
            return UNKNOWN;
        }
        if (full()) {
            return FULL;
        }
        Score s = scores.get(score);
        if (s == null) {
            return NULL;
        }
        if (down == 0) {
            return DIVIDE;
        }
        List<BigInteger> levels = new ArrayList<>();
        for (BigInteger v : s.levels) {
            BigInteger product = v.multiply(BigInteger.valueOf(up));
            BigInteger divisor = BigInteger.valueOf(down);
            BigInteger[] parts = product.divideAndRemainder(divisor);
            boolean below = parts[1].signum() != 0 && parts[1].signum() != divisor.signum();
            levels.add(below ? parts[0].subtract(BigInteger.ONE) : parts[0]);
        }
        return addIfFits(new Score(s.shape, s.hard, levels));
    }

    int order(int a, int b) {
        if (!names(a, b)) {
            return UNKNOWN;
        }
        int failure = pair(scores.get(a), scores.get(b));
        return failure != 0 ? failure : 2 + Integer.signum(scores.get(a).compare(scores.get(b)));
    }

    int put(int c) {
        if (c < 0 || c > 127) {
            return OUTSIDE;
        }
        if (tape.length() == 300) {
            return FULL;
        }
        tape.append((char) c);
        return tape.length();
    }

    int read() {
        String text = tape.toString();
        tape.setLength(0);
        if (full()) {
            return FULL;
        }
        Score found = scoreOf(text);
        if (found != null) {
            return add(found);
        }
        int place = 0;
        while (place < text.length() && beginsText(text.substring(0, place + 1))) {
            place++;
        }
        return -100 - place;
    }

    private static boolean beginsText(String begun) {
        for (String end : ENDS) {
            for (int i = 0; i <= end.length(); i++) {
                if (scoreOf(begun + end.substring(i)) != null) {
                    return true;
                }
            }
        }
        return false;
    }

    /** null: it is not a text. */
    private static Score scoreOf(String text) {
        for (int shape = 0; shape < TEXTS.length; shape++) {
            if (TEXTS[shape].matcher(text).matches()) {
                List<BigInteger> levels = new ArrayList<>();
                int hardEnd = Math.max(text.indexOf("hard"), 0);
                int hard = 0;
                Matcher numbers = Pattern.compile("-?[0-9]+").matcher(text);
                while (numbers.find()) {
                    levels.add(new BigInteger(numbers.group()));
                    hard += numbers.start() < hardEnd ? 1 : 0;
                }
                Score found = new Score(shape, hard, levels);
                return found.fits() && !levels.isEmpty() ? found : null;
            }
        }
        return null;
    }

    int print(int score) {
        if (!names(score)) {
            return UNKNOWN;
        }
        Score s = scores.get(score);
        if (s == null) {
            return NULL;
        }
        List<String> texts = new ArrayList<>();
        for (BigInteger v : s.levels) {
            texts.add(v.toString());
        }
        String form = new String[] {"%s", "%shard/%ssoft", "%shard/%smedium/%ssoft", ""}[s.shape];
        out = s.shape == 3
            ? "[" + String.join("/", texts.subList(0, s.hard)) + "]hard/[" + String.join("/", texts.subList(s.hard, texts.size())) + "]soft"
            : String.format(form, texts.toArray());
        return out.length();
    }

    int out(int i) {
        return i < 0 || i >= out.length() ? NONE : out.charAt(i);
    }

    int plan(int score) {
        if (!names(score)) {
            return UNKNOWN;
        }
        if (scores.get(score) == null) {
            return NULL;
        }
        int before = rules.size();
        pattern = scores.get(score);
        rules.clear();
        kept.clear();
        return before;
    }

    int rule(int score) {
        if (!names(score)) {
            return UNKNOWN;
        }
        if (rules.size() == 12) {
            return FULL;
        }
        int failure = pair(scores.get(score), pattern);
        if (failure != 0) {
            return failure;
        }
        rules.add(new Rule(scores.get(score), 0));
        return rules.size() - 1;
    }

    private boolean hasRule(int rule) {
        return rule >= 0 && rule < rules.size();
    }

    private Score sum(List<Rule> of) {
        Score sum = zeros(pattern.shape, pattern.hard, pattern.levels.size());
        for (Rule rule : of) {
            List<BigInteger> part = rule.part().levels;
            for (int i = 0; i < part.size(); i++) {
                sum.levels.set(i, sum.levels.get(i).add(part.get(i)));
            }
        }
        return sum;
    }

    private boolean change(int rule, Rule changed) {
        List<Rule> then = new ArrayList<>(rules);
        then.set(rule, changed);
        if (!sum(then).fits() || !then.stream().allMatch(r -> r.part().fits())) {
            return false;
        }
        rules = then;
        return true;
    }

    int count(int rule, int n) {
        if (!hasRule(rule)) {
            return UNKNOWN;
        }
        if (n < 0 || n > 1000000) {
            return OUTSIDE;
        }
        Rule old = rules.get(rule);
        return change(rule, new Rule(old.weight, n)) ? old.count : WRAP;
    }

    int weight(int rule, int score) {
        if (!hasRule(rule) || !names(score)) {
            return UNKNOWN;
        }
        int failure = pair(scores.get(score), pattern);
        if (failure != 0) {
            return failure;
        }
        return change(rule, new Rule(scores.get(score), rules.get(rule).count)) ? 1 : WRAP;
    }

    int total(int rule) {
        if (rule != NONE && !hasRule(rule)) {
            return UNKNOWN;
        }
        if (full()) {
            return FULL;
        }
        return add(rule == NONE ? sum(rules) : rules.get(rule).part());
    }

    /** Tries every choice of rules that count n times while the others do not count at all. */
    int safe(int n) {
        if (n < 0 || n > 1000000) {
            return OUTSIDE;
        }
        for (int choice = 0; choice < 1 << rules.size(); choice++) {
            List<Rule> counted = new ArrayList<>();
            for (int i = 0; i < rules.size(); i++) {
                if ((choice >> i & 1) == 1) {
                    counted.add(new Rule(rules.get(i).weight, n));
                }
            }
            if (!sum(counted).fits()) {
                return 0;
            }
        }
        return 1;
    }

    int keep(int score) {
        if (!names(score)) {
            return UNKNOWN;
        }
        Score given = scores.get(score);
        int failure = pair(given, pattern);
        if (failure != 0) {
            return failure;
        }
        int place = (int) kept.stream().filter(k -> k.compare(given) >= 0).count();
        kept.add(place, given);
        if (kept.size() > 5) {
            kept.remove(5);
        }
        return place == 5 ? NONE : place;
    }

    int kept(int k) {
        if (k < 0 || k >= kept.size()) {
            return UNKNOWN;
        }
        return full() ? FULL : add(kept.get(k));
    }

    int many(int what) {
        int[] all = {scores.size(), rules.size(), kept.size(), tape.length(), out.length()};
        return what < 0 || what >= all.length ? OUTSIDE : all[what];
    }

    int drop() {
        if (scores.isEmpty()) {
            return UNKNOWN;
        }
        scores.remove(scores.size() - 1);
        return scores.size();
    }
}
