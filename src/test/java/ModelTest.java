import java.util.NoSuchElementException;
import java.util.Random;

/** All promises at once: runs of up to 512 calls, the same ones each time, on the program and on the model. */
public final class ModelTest {
    private static final int RUNS = 1500, CALLS = 512;
    private static final long[] EDGES = {
        Long.MIN_VALUE, Long.MIN_VALUE + 1, Long.MAX_VALUE, Long.MAX_VALUE - 1, Integer.MIN_VALUE, Integer.MAX_VALUE,
        1L << 32, (1L << 32) - 1, -(1L << 32), 1L << 31, Long.MAX_VALUE / 1000000, Long.MIN_VALUE / 1000000, Long.MAX_VALUE / 12, 0, 1, -1, 10, -10
    };
    private static final int[] FRACTIONS = {0, 1, -1, 2, -2, 3, 7, -10, 1000000, Integer.MAX_VALUE, Integer.MIN_VALUE, Integer.MAX_VALUE - 1, Integer.MIN_VALUE + 1};
    private static final int[] COUNTS = {-1, 0, 0, 1, 1, 2, 3, 12, 999999, 1000000, 1000001, Integer.MIN_VALUE, Integer.MAX_VALUE};
    private static final String SIGNS = "0123456789-/[]hardsoftmedium +\0\u007f";

    private final Checks checks = new Checks();
    private final Random random = new Random(20261116);
    private LevelScores x;
    private Model model;
    /** The shape that most scores of a run have, so that many are like each other. */
    private int shape;
    private int h;
    private int s;

    public static void main(String[] args) {
        ModelTest test = new ModelTest();
        for (int run = 0; run < RUNS; run++) {
            test.run(run);
        }
        test.checks.end();
    }

    private void run(int run) {
        x = new LevelScores();
        model = new Model();
        shape = random.nextInt(4);
        h = random.nextInt(7);
        s = h == 0 ? 1 + random.nextInt(6) : random.nextInt(7);
        // Some runs drop often, so that there is room; others stay full.
        int drops = random.nextInt(4);
        for (int calls = 0; calls < CALLS; ) {
            calls += random.nextInt(4) < drops && x.many(0) > 20 ? drop(run) : call(run);
        }
        compareAll(run);
    }

    private int drop(int run) {
        checks.due("run " + run + ": drop()", x.drop(), model.drop());
        return 1;
    }

    /** How many calls were made. */
    private int call(int run) {
        String in = "run " + run + ": ";
        switch (random.nextInt(24)) {
            case 0: case 1: return make(in);
            case 2: case 3: case 4: return set(in);
            case 5: return at(in);
            case 6: return told(in);
            case 7: case 8: return act(in);
            case 9: return times(in);
            case 10: return order(in);
            case 11: case 12: return text(in);
            case 13: return print(in);
            case 14: return plan(in);
            case 15: return rule(in);
            case 16: case 17: return count(in);
            case 18: return weight(in);
            case 19: return total(in);
            case 20: return safe(in);
            case 21: return keep(in);
            case 22: return kept(in);
            default: return manyOrNothing(in);
        }
    }

    /** Mostly one of those below the end. */
    private int number(int end) {
        return random.nextInt(12) == 0 ? random.nextInt(end + 4) - 2 : end == 0 ? 0 : random.nextInt(end);
    }

    private int score() {
        return number(x.many(0));
    }

    private int rule() {
        return number(x.many(1));
    }

    private long level() {
        switch (random.nextInt(5)) {
            case 0: return EDGES[random.nextInt(EDGES.length)];
            case 1: return random.nextLong() >> random.nextInt(64);
            default: return random.nextInt(7) - 3;
        }
    }

    private int of(int[] values) {
        return values[random.nextInt(values.length)];
    }

    private int make(String in) {
        boolean usual = random.nextInt(4) != 0;
        int shape = usual ? this.shape : random.nextInt(7) - 1;
        int h = usual ? this.h : random.nextInt(10) - 2;
        int s = usual ? this.s : random.nextInt(10) - 2;
        checks.due(in + "make(" + shape + ", " + h + ", " + s + ")", x.make(shape, h, s), model.make(shape, h, s));
        return 1;
    }

    private int set(String in) {
        int score = score();
        int level = number(Math.max(x.told(score, 2), 0));
        long v = level();
        checks.due(in + "set(" + score + ", " + level + ", " + v + ")", x.set(score, level, v), model.set(score, level, v));
        return 2;
    }

    private int at(String in) {
        int score = score();
        int level = random.nextInt(15) - 1;
        checks.due(in + "at(" + score + ", " + level + ")", programAt(score, level), model.at(score, level));
        return 1;
    }

    private long programAt(int score, int level) {
        try {
            return x.at(score, level);
        } catch (IndexOutOfBoundsException e) {
            return e.getClass() == IndexOutOfBoundsException.class ? Model.THROWS_INDEX : 0;
        } catch (NoSuchElementException e) {
            return e.getClass() == NoSuchElementException.class ? Model.THROWS_ELEMENT : 0;
        }
    }

    private int told(String in) {
        int score = score();
        int what = random.nextInt(6) - 1;
        checks.due(in + "told(" + score + ", " + what + ")", x.told(score, what), model.told(score, what));
        return 1;
    }

    private int act(String in) {
        int act = random.nextInt(8) - 1;
        int a = score();
        int b = score();
        checks.due(in + "act(" + act + ", " + a + ", " + b + ")", x.act(act, a, b), model.act(act, a, b));
        return 1;
    }

    private int times(String in) {
        int score = score();
        int up = random.nextBoolean() ? of(FRACTIONS) : random.nextInt();
        int down = random.nextBoolean() ? of(FRACTIONS) : random.nextInt();
        checks.due(in + "times(" + score + ", " + up + ", " + down + ")", x.times(score, up, down), model.times(score, up, down));
        return 1;
    }

    private int order(String in) {
        int a = score();
        int b = score();
        checks.due(in + "order(" + a + ", " + b + ")", x.order(a, b), model.order(a, b));
        return 1;
    }

    private int text(String in) {
        String text = spoilt(textOf());
        for (int i = 0; i < text.length(); i++) {
            int c = text.charAt(i);
            checks.due(in + "put(" + c + ")", x.put(c), model.put(c));
        }
        if (random.nextInt(40) == 0) {
            int c = random.nextBoolean() ? -1 - random.nextInt(3) : 128 + random.nextInt(3);
            checks.due(in + "put(" + c + ")", x.put(c), model.put(c));
        }
        if (random.nextInt(20) != 0) {
            checks.due(in + "read() of " + text, x.read(), model.read());
        }
        return Math.min(text.length(), 60) + 2;
    }

    private String textOf() {
        switch (random.nextInt(4)) {
            case 0: return "" + level();
            case 1: return level() + "hard/" + level() + "soft";
            case 2: return level() + "hard/" + level() + "medium/" + level() + "soft";
            default: return "[" + list() + "]hard/[" + list() + "]soft";
        }
    }

    private String list() {
        StringBuilder all = new StringBuilder();
        int size = random.nextInt(3) == 0 ? 0 : random.nextInt(8);
        for (int i = 0; i < size; i++) {
            all.append(i == 0 ? "" : "/").append(level());
        }
        return all.toString();
    }

    private String spoilt(String text) {
        int place = random.nextInt(text.length() + 1);
        char c = SIGNS.charAt(random.nextInt(SIGNS.length()));
        switch (random.nextInt(6)) {
            case 0: return text.substring(0, place);
            case 1: return text.substring(0, place) + c + text.substring(place);
            case 2: return place == text.length() ? text : text.substring(0, place) + c + text.substring(place + 1);
            default: return text;
        }
    }

    private int print(String in) {
        int score = score();
        checks.due(in + "print(" + score + ")", x.print(score), model.print(score));
        compareOut(in);
        return 10;
    }

    private void compareOut(String in) {
        for (int i = -1; i <= Math.max(x.many(4), model.many(4)); i++) {
            checks.due(in + "out(" + i + ")", x.out(i), model.out(i));
        }
    }

    private int plan(String in) {
        int score = score();
        if (random.nextInt(3) == 0) {
            checks.due(in + "plan(" + score + ")", x.plan(score), model.plan(score));
        }
        return 1;
    }

    private int rule(String in) {
        int score = score();
        checks.due(in + "rule(" + score + ")", x.rule(score), model.rule(score));
        return 1;
    }

    private int count(String in) {
        int rule = rule();
        int n = random.nextBoolean() ? of(COUNTS) : random.nextInt(5);
        checks.due(in + "count(" + rule + ", " + n + ")", x.count(rule, n), model.count(rule, n));
        return 1;
    }

    private int weight(String in) {
        int rule = rule();
        int score = score();
        checks.due(in + "weight(" + rule + ", " + score + ")", x.weight(rule, score), model.weight(rule, score));
        return 1;
    }

    private int total(String in) {
        int rule = random.nextBoolean() ? LevelScores.NONE : rule();
        checks.due(in + "total(" + rule + ")", x.total(rule), model.total(rule));
        return 1;
    }

    private int safe(String in) {
        // The model looks at all choices of rules, which is dear when there are many.
        if (x.many(1) > 8 && random.nextInt(20) != 0) {
            return 0;
        }
        int n = random.nextBoolean() ? of(COUNTS) : random.nextInt(1000001);
        checks.due(in + "safe(" + n + ")", x.safe(n), model.safe(n));
        return 1;
    }

    private int keep(String in) {
        int score = score();
        checks.due(in + "keep(" + score + ")", x.keep(score), model.keep(score));
        return 1;
    }

    private int kept(String in) {
        int k = number(x.many(2));
        checks.due(in + "kept(" + k + ")", x.kept(k), model.kept(k));
        return 1;
    }

    private int manyOrNothing(String in) {
        int what = random.nextInt(7) - 1;
        checks.due(in + "many(" + what + ")", x.many(what), model.many(what));
        if (random.nextInt(4) == 0) {
            checks.due(in + "nothing()", x.nothing(), model.nothing());
        }
        return 2;
    }

    /** All that can be seen of both. */
    private void compareAll(int run) {
        String in = "end of run " + run + ": ";
        for (int what = 0; what < 5; what++) {
            checks.due(in + "many(" + what + ")", x.many(what), model.many(what));
        }
        for (int score = 0; score < x.many(0); score++) {
            for (int level = -1; level < 13; level++) {
                checks.due(in + "at(" + score + ", " + level + ")", programAt(score, level), model.at(score, level));
            }
            for (int what = 0; what < 4; what++) {
                checks.due(in + "told(" + score + ", " + what + ")", x.told(score, what), model.told(score, what));
            }
        }
        compareOut(in);
        checks.due(in + "drop()", x.drop(), model.drop());
        for (int rule = -1; rule < x.many(1); rule++) {
            compareAsScore(in + "total(" + rule + ")", x.total(rule), model.total(rule));
        }
        for (int k = 0; k < x.many(2); k++) {
            compareAsScore(in + "kept(" + k + ")", x.kept(k), model.kept(k));
        }
    }

    private void compareAsScore(String call, int got, int want) {
        checks.due(call, got, want);
        for (int level = 0; level < 13; level++) {
            checks.due(call + " at level " + level, programAt(got, level), model.at(want, level));
        }
        checks.due(call + " dropped", x.drop(), model.drop());
    }
}
