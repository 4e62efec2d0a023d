/**
 * "Calls answer, the first of these that fits: UNKNOWN, OUTSIDE, FULL; then the FAILURE, in the order of part 1; then
 * nothing changes": for each call, each refusal, alone and where a later one would fit too, and all that can be seen
 * after it beside all that can be seen without it.
 */
public final class RefusalsTest {
    private static final long MOST = Long.MAX_VALUE, LEAST = Long.MIN_VALUE;
    private static final int NONE = LevelScores.NONE, UNKNOWN = LevelScores.UNKNOWN, OUTSIDE = LevelScores.OUTSIDE, FULL = LevelScores.FULL;
    private static final int NULL = LevelScores.NULL, CAST = LevelScores.CAST, INDEX = LevelScores.INDEX, SIZE = LevelScores.SIZE, DIVIDE = LevelScores.DIVIDE, WRAP = LevelScores.WRAP;
    /** The numbers of the scores that every object here has, and the first number that names nothing while there is room. */
    private static final int ENDS = 0, NOTHING = 1, BENT = 2, SIMPLE = 3, SMALL = 4, NO_SCORE = 5;
    /** The first number that names no rule while there is room. */
    private static final int NO_RULE = 2;
    private static final Checks CHECKS = new Checks();

    private interface Call {
        long on(LevelScores x);
    }

    public static void main(String[] args) {
        withRoom();
        planWithRoom();
        withSixtyNumbers();
        withTwelveRules();
        withAFullTape();
        withNothingAtAll();
        readThatFails();
        atThatThrows();
        CHECKS.end();
    }

    // ---- the objects on which calls are refused

    /** Some of all: a plan of TWO with two rules and two kept, a tape and OUT with bytes. */
    private static LevelScores roomy() {
        LevelScores x = new LevelScores();
        Checks.two(x, MOST, LEAST);
        x.nothing();
        Checks.bent(x, 1, 1, 2);
        Checks.simple(x, 5);
        Checks.two(x, -1, 3);
        x.plan(SMALL);
        x.rule(ENDS);
        x.rule(SMALL);
        x.count(0, 1);
        x.count(1, 7);
        x.keep(SMALL);
        x.keep(ENDS);
        Checks.type(x, "12");
        x.print(SMALL);
        return x;
    }

    private static LevelScores sixtyNumbers() {
        LevelScores x = roomy();
        Checks.fill(x);
        return x;
    }

    private static LevelScores twelveRules() {
        LevelScores x = roomy();
        for (int rule = NO_RULE; rule < 12; rule++) {
            x.rule(SMALL);
        }
        return x;
    }

    private static LevelScores fullTape() {
        LevelScores x = roomy();
        Checks.type(x, "hard/3soft" + "x".repeat(288));
        return x;
    }

    // ---- all that can be seen

    /** What is looked at here changes the object, so it is the last that is done with it. */
    private static String seen(LevelScores x) {
        StringBuilder all = new StringBuilder();
        for (int what = 0; what < 5; what++) {
            all.append(x.many(what)).append(' ');
        }
        all.append(Checks.out(x));
        int numbers = x.many(0);
        for (int score = 0; score < numbers; score++) {
            all.append("; ").append(form(x, score));
        }
        if (numbers == 60) {
            x.drop();
        }
        all.append("; tape ").append(dropped(x, x.read()));
        all.append("; total ").append(dropped(x, x.total(NONE)));
        seeRules(x, all);
        seeKept(x, all);
        return all.toString();
    }

    private static String form(LevelScores x, int score) {
        int shape = x.told(score, 0);
        return shape < 0 ? "failure " + shape : shape + " " + x.told(score, 1) + " " + x.told(score, 3) + ": " + Checks.levels(x, score);
    }

    private static String dropped(LevelScores x, int score) {
        if (score < 0) {
            return "failure " + score;
        }
        String form = form(x, score);
        x.drop();
        return form;
    }

    private static void seeRules(LevelScores x, StringBuilder all) {
        int rules = x.many(1);
        for (int rule = 0; rule < rules; rule++) {
            all.append("; rule ").append(dropped(x, x.total(rule)));
        }
        // Last, for another count changes the total.
        for (int rule = 0; rule < rules; rule++) {
            all.append("; count ").append(x.count(rule, 0));
        }
        for (int rule = 0; rule < rules; rule++) {
            x.count(rule, 1);
            all.append("; weight ").append(dropped(x, x.total(rule)));
            x.count(rule, 0);
        }
    }

    private static void seeKept(LevelScores x, StringBuilder all) {
        int held = x.many(2);
        for (int k = 0; k < held; k++) {
            all.append("; kept ").append(dropped(x, x.kept(k)));
        }
    }

    private static void refused(String call, LevelScores x, LevelScores untouched, Call what, long want) {
        CHECKS.sentence("the first of these that fits");
        CHECKS.due(call, what.on(x), want);
        CHECKS.sentence("then nothing changes");
        CHECKS.due("all that can be seen after " + call, seen(x), seen(untouched));
    }

    // ---- the calls

    private static void room(String call, Call what, long want) {
        refused(call, roomy(), roomy(), what, want);
    }

    private static void withRoom() {
        room("make of no SHAPE", x -> x.make(-1, -1, 7), OUTSIDE);
        room("make above 6 and below 0", x -> x.make(3, -1, 7), OUTSIDE);
        room("make of both 0", x -> x.make(3, 0, 0), OUTSIDE);
        room("make below 0", x -> x.make(3, -1, 1), SIZE);
        room("set of no score's no level", x -> x.set(NO_SCORE, 12, 9), UNKNOWN);
        room("set of NOTHING's no level", x -> x.set(NOTHING, 12, 9), NULL);
        room("set of NOTHING", x -> x.set(NOTHING, 0, 9), NULL);
        room("set of no level", x -> x.set(ENDS, 2, 9), INDEX);
        room("set of level -1", x -> x.set(ENDS, -1, 9), INDEX);
        room("told what of no score", x -> x.told(NO_SCORE, 4), UNKNOWN);
        room("told what of NOTHING", x -> x.told(NOTHING, 4), OUTSIDE);
        room("told of NOTHING", x -> x.told(NOTHING, 0), NULL);
        room("no act on no score and NOTHING", x -> x.act(6, NO_SCORE, NOTHING), UNKNOWN);
        room("act on NOTHING and no score", x -> x.act(0, NOTHING, NO_SCORE), UNKNOWN);
        room("no act on NOTHING", x -> x.act(6, NOTHING, ENDS), OUTSIDE);
        room("act on NOTHING and an unlike one", x -> x.act(0, NOTHING, BENT), NULL);
        room("act on one and NOTHING", x -> x.act(0, BENT, NOTHING), NULL);
        room("act on unlike ones", x -> x.act(0, ENDS, BENT), CAST);
        room("act that wraps", x -> x.act(0, ENDS, ENDS), WRAP);
        room("act that wraps at the last level", x -> x.act(1, SMALL, ENDS), WRAP);
        room("times of no score by 0", x -> x.times(NO_SCORE, 2, 0), UNKNOWN);
        room("times of NOTHING by 0", x -> x.times(NOTHING, 2, 0), NULL);
        room("times by 0", x -> x.times(ENDS, 2, 0), DIVIDE);
        room("times that wraps", x -> x.times(ENDS, 2, 1), WRAP);
        room("times that wraps at the last level", x -> x.times(ENDS, -1, 1), WRAP);
        room("order of NOTHING and no score", x -> x.order(NOTHING, NO_SCORE), UNKNOWN);
        room("order of NOTHING and an unlike one", x -> x.order(NOTHING, BENT), NULL);
        room("order of unlike ones", x -> x.order(ENDS, BENT), CAST);
        room("put below 0", x -> x.put(-1), OUTSIDE);
        room("put above 127", x -> x.put(128), OUTSIDE);
        room("print of no score", x -> x.print(NO_SCORE), UNKNOWN);
        room("print of NOTHING", x -> x.print(NOTHING), NULL);
        room("out below 0", x -> x.out(-1), NONE);
        room("out behind the last", x -> x.out(x.many(4)), NONE);
        room("many of no kind", x -> x.many(5), OUTSIDE);
    }

    private static void planWithRoom() {
        room("plan of no score", x -> x.plan(NO_SCORE), UNKNOWN);
        room("plan of NOTHING", x -> x.plan(NOTHING), NULL);
        room("rule of no score", x -> x.rule(NO_SCORE), UNKNOWN);
        room("rule of NOTHING", x -> x.rule(NOTHING), NULL);
        room("rule of an unlike one", x -> x.rule(BENT), CAST);
        room("rule of one of another shape", x -> x.rule(SIMPLE), CAST);
        room("no count of no rule", x -> x.count(NO_RULE, -1), UNKNOWN);
        room("count below 0", x -> x.count(0, -1), OUTSIDE);
        room("count above a million", x -> x.count(0, 1000001), OUTSIDE);
        room("count whose part wraps", x -> x.count(0, 2), WRAP);
        room("weight of no rule, NOTHING", x -> x.weight(NO_RULE, NOTHING), UNKNOWN);
        room("weight of no rule, an unlike one", x -> x.weight(NO_RULE, BENT), UNKNOWN);
        room("weight of a rule, no score", x -> x.weight(0, NO_SCORE), UNKNOWN);
        room("weight of a rule, NOTHING", x -> x.weight(0, NOTHING), NULL);
        room("weight of a rule, an unlike one", x -> x.weight(0, BENT), CAST);
        room("weight whose part wraps", x -> x.weight(1, ENDS), WRAP);
        room("total of no rule", x -> x.total(NO_RULE), UNKNOWN);
        room("total below NONE", x -> x.total(-2), UNKNOWN);
        room("safe below 0", x -> x.safe(-1), OUTSIDE);
        room("safe above a million", x -> x.safe(1000001), OUTSIDE);
        room("keep of no score", x -> x.keep(NO_SCORE), UNKNOWN);
        room("keep of NOTHING", x -> x.keep(NOTHING), NULL);
        room("keep of an unlike one", x -> x.keep(BENT), CAST);
        room("kept behind the last", x -> x.kept(2), UNKNOWN);
        room("kept below 0", x -> x.kept(-1), UNKNOWN);
    }

    private static void sixty(String call, Call what, long want) {
        refused(call + " beside 60 numbers", sixtyNumbers(), sixtyNumbers(), what, want);
    }

    private static void withSixtyNumbers() {
        sixty("make of no SHAPE", x -> x.make(4, 0, 0), OUTSIDE);
        sixty("make of both 0", x -> x.make(3, 0, 0), OUTSIDE);
        sixty("make above 6 and below 0", x -> x.make(3, 7, -1), OUTSIDE);
        sixty("make below 0", x -> x.make(3, -1, 1), FULL);
        sixty("make", x -> x.make(0, 0, 0), FULL);
        sixty("nothing", x -> x.nothing(), FULL);
        sixty("no act on no score", x -> x.act(6, 60, ENDS), UNKNOWN);
        sixty("no act", x -> x.act(6, ENDS, ENDS), OUTSIDE);
        sixty("act on NOTHING", x -> x.act(0, NOTHING, ENDS), FULL);
        sixty("act on unlike ones", x -> x.act(0, ENDS, BENT), FULL);
        sixty("act that wraps", x -> x.act(0, ENDS, ENDS), FULL);
        sixty("act", x -> x.act(2, ENDS, ENDS), FULL);
        sixty("times of no score", x -> x.times(60, 1, 0), UNKNOWN);
        sixty("times of NOTHING", x -> x.times(NOTHING, 1, 1), FULL);
        sixty("times by 0", x -> x.times(ENDS, 1, 0), FULL);
        sixty("times that wraps", x -> x.times(ENDS, 2, 1), FULL);
        sixty("times", x -> x.times(ENDS, 1, 1), FULL);
        sixty("total of no rule", x -> x.total(NO_RULE), UNKNOWN);
        sixty("total", x -> x.total(NONE), FULL);
        sixty("part", x -> x.total(0), FULL);
        sixty("kept behind the last", x -> x.kept(2), UNKNOWN);
        sixty("kept", x -> x.kept(0), FULL);
    }

    private static void twelve(String call, Call what, long want) {
        refused(call + " beside twelve rules", twelveRules(), twelveRules(), what, want);
    }

    private static void withTwelveRules() {
        twelve("rule of no score", x -> x.rule(NO_SCORE), UNKNOWN);
        twelve("rule of NOTHING", x -> x.rule(NOTHING), FULL);
        twelve("rule of an unlike one", x -> x.rule(BENT), FULL);
        twelve("rule", x -> x.rule(SMALL), FULL);
        twelve("count of no rule", x -> x.count(12, 1), UNKNOWN);
        twelve("count whose part wraps", x -> x.count(0, 2), WRAP);
        twelve("weight whose part wraps", x -> x.weight(1, ENDS), WRAP);
    }

    private static void withAFullTape() {
        refused("put above 127 on a full tape", fullTape(), fullTape(), x -> x.put(128), OUTSIDE);
        refused("put on a full tape", fullTape(), fullTape(), x -> x.put('1'), FULL);
    }

    private static void fresh(String call, Call what, long want) {
        refused(call + " of a new object", new LevelScores(), new LevelScores(), what, want);
    }

    private static void withNothingAtAll() {
        fresh("set", x -> x.set(0, 0, 1), UNKNOWN);
        fresh("told", x -> x.told(0, 0), UNKNOWN);
        fresh("act", x -> x.act(0, 0, 0), UNKNOWN);
        fresh("times", x -> x.times(0, 1, 1), UNKNOWN);
        fresh("order", x -> x.order(0, 0), UNKNOWN);
        fresh("read", x -> x.read(), -100);
        fresh("print", x -> x.print(0), UNKNOWN);
        fresh("out", x -> x.out(0), NONE);
        fresh("plan", x -> x.plan(0), UNKNOWN);
        fresh("rule", x -> x.rule(0), UNKNOWN);
        fresh("count", x -> x.count(0, 0), UNKNOWN);
        fresh("weight", x -> x.weight(0, 0), UNKNOWN);
        fresh("total", x -> x.total(0), UNKNOWN);
        fresh("keep", x -> x.keep(0), UNKNOWN);
        fresh("kept", x -> x.kept(0), UNKNOWN);
        fresh("drop", x -> x.drop(), UNKNOWN);
    }

    /** A read that fails empties the tape and changes nothing else; an object whose tape was read well is its measure. */
    private static void readThatFails() {
        LevelScores x = roomy();
        x.put('x');
        CHECKS.sentence("11: the first byte with which no TEXT begins so any more");
        CHECKS.due("read of 12x", x.read(), -102);
        CHECKS.sentence("11: nothing but THE TAPE changes");
        CHECKS.due("all that can be seen after a failed read", seen(x), seen(emptied(roomy())));
        LevelScores y = sixtyNumbers();
        CHECKS.sentence("11: FULL, ahead of reading (it is empty then, too)");
        CHECKS.due("read beside 60 numbers", y.read(), FULL);
        LevelScores full = emptied(roomy());
        Checks.fill(full);
        CHECKS.due("all that can be seen after it", seen(y), seen(full));
    }

    private static LevelScores emptied(LevelScores x) {
        x.read();
        x.drop();
        return x;
    }

    private static void thrown(String call, int score, int level, String want) {
        LevelScores x = roomy();
        CHECKS.sentence("5: what at throws");
        CHECKS.due(call, Checks.at(x, score, level), want);
        CHECKS.sentence("then nothing changes");
        CHECKS.due("all that can be seen after " + call, seen(x), seen(roomy()));
    }

    private static void atThatThrows() {
        thrown("at of no score", NO_SCORE, 0, "IndexOutOfBoundsException");
        thrown("at of score -1", -1, 0, "IndexOutOfBoundsException");
        thrown("at of NOTHING", NOTHING, 0, "NoSuchElementException");
        thrown("at of NOTHING's no level", NOTHING, -1, "NoSuchElementException");
        thrown("at of no level", ENDS, 2, "IndexOutOfBoundsException");
        thrown("at of level -1", ENDS, -1, "IndexOutOfBoundsException");
    }
}
