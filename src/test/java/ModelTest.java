import java.util.NoSuchElementException;
import java.util.Random;

/** All promises at once: runs of up to 512 calls, the same ones each time, on the program and on the model. */
public final class ModelTest {
    /** The document promises nothing after an object's 512th call, so nothing is asked then. */
    private static final int RUNS = 3000, CALLS = 512;
    /** The levels -1 .. 12 of a number, its shape and its hard levels. */
    private static final int CALLS_TO_TELL = 16;
    private static final long[] EDGES = {
        Long.MIN_VALUE, Long.MIN_VALUE + 1, Long.MAX_VALUE, Long.MAX_VALUE - 1, Integer.MIN_VALUE, Integer.MAX_VALUE,
        1L << 32, (1L << 32) - 1, -(1L << 32), 1L << 31, Long.MAX_VALUE / 1000000, Long.MIN_VALUE / 1000000, Long.MAX_VALUE / 12, 0, 1, -1, 10, -10
    };
    private static final int[] FRACTIONS = {0, 1, -1, 2, -2, 3, 7, -10, 1000000, Integer.MAX_VALUE, Integer.MIN_VALUE, Integer.MAX_VALUE - 1, Integer.MIN_VALUE + 1};
    private static final int[] COUNTS = {-1, 0, 0, 1, 1, 2, 3, 12, 999999, 1000000, 1000001, Integer.MIN_VALUE, Integer.MAX_VALUE};
    private static final String SIGNS = "0123456789-/[]hardsoftmedium +\0\u007f";

    private final Checks checks = new Checks();
    private final Random random = new Random(20261116);
    private LevelScores x;
    private Model model;
    /** The shape that most scores of a run have, so that many are like each other. */
    private int shape;
    private int h;
    private int s;
    private int calls;

    public static void main(String[] args) {
        ModelTest test = new ModelTest();
        for (int run = 0; run < RUNS; run++) {
            test.run(run);
        }
        test.checks.end();
    }

    private void run(int run) {
        x = new LevelScores();
        model = new Model();
        calls = 0;
        shape = random.nextInt(4);
        h = random.nextInt(7);
        s = h == 0 ? 1 + random.nextInt(6) : random.nextInt(7);
        // Some runs drop often, so that there is room; others stay full.
        int drops = random.nextInt(4);
        int end = CALLS - random.nextInt(400);
        while (calls < end) {
            if (random.nextInt(4) < drops && model.many(0) > 20) {
                drop("run " + run + ": ");
            } else {
                call("run " + run + ": ");
            }
        }
        compareAll("end of run " + run + ": ");
    }

    private int callsLeft() {
        return CALLS - calls;
    }

    /** One call's answer. */
    private void due(String call, long got, long want) {
        calls++;
        checks.due(call, got, want);
    }

    private void drop(String in) {
        due(in + "drop()", x.drop(), model.drop());
    }

    private void call(String in) {
        switch (random.nextInt(24)) {
            case 0: case 1: make(in); break;
            case 2: case 3: case 4: set(in); break;
            case 5: at(in); break;
            case 6: told(in); break;
            case 7: case 8: act(in); break;
            case 9: times(in); break;
            case 10: order(in); break;
            case 11: text(in); break;
            case 12: print(in); break;
            case 13: plan(in); break;
            case 14: case 15: rule(in); break;
            case 16: case 17: count(in); break;
            case 18: weight(in); break;
            case 19: total(in); break;
            case 20: safe(in); break;
            case 21: keep(in); break;
            case 22: kept(in); break;
            default: manyOrNothing(in); break;
        }
    }

    /** Mostly one of those below the end. */
    private int number(int end) {
        return random.nextInt(12) == 0 ? random.nextInt(end + 4) - 2 : end == 0 ? 0 : random.nextInt(end);
    }

    private int score() {
        return number(model.many(0));
    }

    private int rule() {
        return number(model.many(1));
    }

    private long level() {
        switch (random.nextInt(5)) {
            case 0: return EDGES[random.nextInt(EDGES.length)];
            case 1: return random.nextLong() >> random.nextInt(64);
            default: return random.nextInt(7) - 3;
        }
    }

    private int of(int[] values) {
        return values[random.nextInt(values.length)];
    }

    private void make(String in) {
        boolean usual = random.nextInt(4) != 0;
        int shape = usual ? this.shape : random.nextInt(7) - 1;
        int h = usual ? this.h : random.nextInt(10) - 2;
        int s = usual ? this.s : random.nextInt(10) - 2;
        due(in + "make(" + shape + ", " + h + ", " + s + ")", x.make(shape, h, s), model.make(shape, h, s));
    }

    private void set(String in) {
        int score = score();
        int level = number(Math.max(model.told(score, 2), 0));
        long v = level();
        due(in + "set(" + score + ", " + level + ", " + v + ")", x.set(score, level, v), model.set(score, level, v));
    }

    private void at(String in) {
        int score = score();
        int level = random.nextInt(15) - 1;
        due(in + "at(" + score + ", " + level + ")", programAt(score, level), model.at(score, level));
    }

    private long programAt(int score, int level) {
        try {
            return x.at(score, level);
        } catch (IndexOutOfBoundsException e) {
            return e.getClass() == IndexOutOfBoundsException.class ? Model.THROWS_INDEX : 0;
        } catch (NoSuchElementException e) {
            return e.getClass() == NoSuchElementException.class ? Model.THROWS_ELEMENT : 0;
        }
    }

    private void told(String in) {
        int score = score();
        int what = random.nextInt(6) - 1;
        due(in + "told(" + score + ", " + what + ")", x.told(score, what), model.told(score, what));
    }

    private void act(String in) {
        int act = random.nextInt(8) - 1;
        int a = score();
        int b = score();
        due(in + "act(" + act + ", " + a + ", " + b + ")", x.act(act, a, b), model.act(act, a, b));
    }

    private void times(String in) {
        int score = score();
        int up = random.nextBoolean() ? of(FRACTIONS) : random.nextInt();
        int down = random.nextBoolean() ? of(FRACTIONS) : random.nextInt();
        due(in + "times(" + score + ", " + up + ", " + down + ")", x.times(score, up, down), model.times(score, up, down));
    }

    private void order(String in) {
        int a = score();
        int b = score();
        due(in + "order(" + a + ", " + b + ")", x.order(a, b), model.order(a, b));
    }

    private void text(String in) {
        String text = spoilt(textOf());
        if (text.length() + 2 > callsLeft()) {
            return;
        }
        for (int i = 0; i < text.length(); i++) {
            int c = text.charAt(i);
            due(in + "put(" + c + ")", x.put(c), model.put(c));
        }
        if (random.nextInt(40) == 0) {
            int c = random.nextBoolean() ? -1 - random.nextInt(3) : 128 + random.nextInt(3);
            due(in + "put(" + c + ")", x.put(c), model.put(c));
        }
        if (random.nextInt(20) != 0) {
            due(in + "read() of " + text, x.read(), model.read());
        }
    }

    private String textOf() {
        switch (random.nextInt(4)) {
            case 0: return "" + level();
            case 1: return level() + "hard/" + level() + "soft";
            case 2: return level() + "hard/" + level() + "medium/" + level() + "soft";
            default: return "[" + list() + "]hard/[" + list() + "]soft";
        }
    }

    private String list() {
        StringBuilder all = new StringBuilder();
        int size = random.nextInt(3) == 0 ? 0 : random.nextInt(8);
        for (int i = 0; i < size; i++) {
            all.append(i == 0 ? "" : "/").append(level());
        }
        return all.toString();
    }

    private String spoilt(String text) {
        int place = random.nextInt(text.length() + 1);
        char c = SIGNS.charAt(random.nextInt(SIGNS.length()));
        switch (random.nextInt(6)) {
            case 0: return text.substring(0, place);
            case 1: return text.substring(0, place) + c + text.substring(place);
            case 2: return place == text.length() ? text : text.substring(0, place) + c + text.substring(place + 1);
            default: return text;
        }
    }

    private void print(String in) {
        int score = score();
        due(in + "print(" + score + ")", x.print(score), model.print(score));
        compareOut(in, random.nextInt(model.many(4) + 1), Math.min(callsLeft(), 6));
    }

    /** Some bytes from a place on, and what is ahead of the first and behind the last. */
    private void compareOut(String in, int from, int most) {
        int places = model.many(4) + 2;
        for (int n = 0; n < Math.min(places, most); n++) {
            int i = (from + n) % places - 1;
            due(in + "out(" + i + ")", x.out(i), model.out(i));
        }
    }

    private void plan(String in) {
        int score = score();
        if (random.nextInt(3) == 0) {
            due(in + "plan(" + score + ")", x.plan(score), model.plan(score));
        }
    }

    private void rule(String in) {
        int score = score();
        due(in + "rule(" + score + ")", x.rule(score), model.rule(score));
    }

    private void count(String in) {
        int rule = rule();
        int n = random.nextBoolean() ? of(COUNTS) : random.nextInt(5);
        due(in + "count(" + rule + ", " + n + ")", x.count(rule, n), model.count(rule, n));
    }

    private void weight(String in) {
        int rule = rule();
        int score = score();
        due(in + "weight(" + rule + ", " + score + ")", x.weight(rule, score), model.weight(rule, score));
    }

    private void total(String in) {
        int rule = random.nextBoolean() ? LevelScores.NONE : rule();
        due(in + "total(" + rule + ")", x.total(rule), model.total(rule));
    }

    private void safe(String in) {
        // The model looks at all choices of rules, which is dear when there are many.
        if (model.many(1) > 8 && random.nextInt(20) != 0) {
            return;
        }
        int n = random.nextBoolean() ? of(COUNTS) : random.nextInt(1000001);
        due(in + "safe(" + n + ")", x.safe(n), model.safe(n));
    }

    private void keep(String in) {
        int score = score();
        due(in + "keep(" + score + ")", x.keep(score), model.keep(score));
    }

    private void kept(String in) {
        int k = number(model.many(2));
        due(in + "kept(" + k + ")", x.kept(k), model.kept(k));
    }

    private void manyOrNothing(String in) {
        int what = random.nextInt(7) - 1;
        due(in + "many(" + what + ")", x.many(what), model.many(what));
        if (random.nextInt(4) == 0 && callsLeft() > 0) {
            due(in + "nothing()", x.nothing(), model.nothing());
        }
    }

    /** As much of what can be seen of both as the rest of the calls allows. */
    private void compareAll(String in) {
        for (int what = 0; what < 5 && callsLeft() > 0; what++) {
            due(in + "many(" + what + ")", x.many(what), model.many(what));
        }
        int first = random.nextInt(3);
        for (int i = 0; i < 3; i++) {
            switch ((first + i) % 3) {
                case 0: compareScores(in); break;
                case 1: compareOut(in, 0, callsLeft()); break;
                default: comparePlan(in); break;
            }
        }
    }

    private void compareScores(String in) {
        int numbers = model.many(0);
        int first = random.nextInt(numbers + 1);
        for (int i = 0; i < numbers && callsLeft() >= CALLS_TO_TELL; i++) {
            compareLevels(in, (first + i) % numbers);
        }
    }

    private void compareLevels(String in, int score) {
        for (int level = -1; level < 13; level++) {
            due(in + "at(" + score + ", " + level + ")", programAt(score, level), model.at(score, level));
        }
        for (int what = 0; what < 2; what++) {
            due(in + "told(" + score + ", " + what + ")", x.told(score, what), model.told(score, what));
        }
    }

    private void comparePlan(String in) {
        if (callsLeft() > 0) {
            drop(in);
        }
        for (int rule = -1; rule < model.many(1) && callsLeft() >= CALLS_TO_TELL + 2; rule++) {
            due(in + "total(" + rule + ")", x.total(rule), model.total(rule));
            compareLevels(in + "total(" + rule + "): ", model.many(0) - 1);
            drop(in);
        }
        for (int k = 0; k < model.many(2) && callsLeft() >= CALLS_TO_TELL + 2; k++) {
            due(in + "kept(" + k + ")", x.kept(k), model.kept(k));
            compareLevels(in + "kept(" + k + "): ", model.many(0) - 1);
            drop(in);
        }
    }
}
