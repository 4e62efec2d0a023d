/** The boundary cases of part 3 of the terms and of promises 14 to 23: a test for each sentence that names one. */
public final class PlanEdgesTest {
    private static final long MOST = Long.MAX_VALUE, LEAST = Long.MIN_VALUE;
    private static final int MOST_INT = Integer.MAX_VALUE, LEAST_INT = Integer.MIN_VALUE;
    private static final int NONE = LevelScores.NONE;
    private static final Checks CHECKS = new Checks();

    public static void main(String[] args) {
        simpleAtFirst();
        twelveRulesAtMost();
        weightIsACopy();
        countZeroAtFirst();
        zerosWithoutRules();
        noPartBeyond64Bits();
        noTotalBeyond64Bits();
        exactWhateverWasBetween();
        upToFiveKept();
        theGreatestOnesKept();
        theFirstOfLikeOnesAhead();
        planUnknown();
        planNull();
        planHowManyRules();
        planAnew();
        ruleUnknown();
        ruleFull();
        ruleNull();
        ruleCast();
        countUnknown();
        countOutside();
        countWhatItWas();
        countPartWraps();
        countTotalWraps();
        countWrapsAtAnyLevel();
        weightUnknown();
        weightNull();
        weightCast();
        weightWraps();
        weightWithoutACount();
        totalUnknown();
        totalFull();
        safeOutside();
        safeWithoutRules();
        safeAtTheEnds();
        safeWhateverTheCounts();
        safeAtAnyLevel();
        safeTwelveRules();
        keepUnknown();
        keepNull();
        keepCast();
        keepNone();
        keepACopy();
        keptUnknown();
        keptFull();
        manyOutside();
        manyAtTheEnds();
        dropUnknown();
        dropTheLast();
        CHECKS.end();
    }

    private static String total(LevelScores x, int rule) {
        return Checks.levelsDropped(x, x.total(rule));
    }

    private static String kept(LevelScores x, int k) {
        return Checks.levelsDropped(x, x.kept(k));
    }

    /** A plan of SIMPLE ones with a rule for each weight; the numbers are dropped again. */
    private static LevelScores planOf(long... weights) {
        LevelScores x = new LevelScores();
        for (long weight : weights) {
            x.rule(Checks.simple(x, weight));
            x.drop();
        }
        return x;
    }

    // ---- part 3 of the terms

    private static void simpleAtFirst() {
        CHECKS.sentence("THE PLAN has a SHAPE, SIMPLE at first");
        LevelScores x = new LevelScores();
        int simple = Checks.simple(x, 5);
        int[] others = {Checks.two(x, 0, 0), Checks.three(x, 0, 0, 0), Checks.bent(x, 0, 0), Checks.bent(x, 1, 0)};
        for (int other : others) {
            CHECKS.due("rule(" + other + ")", x.rule(other), LevelScores.CAST);
            CHECKS.due("keep(" + other + ")", x.keep(other), LevelScores.CAST);
        }
        CHECKS.due("shape of the total", x.told(x.total(NONE), 0), 0);
        CHECKS.due("keep of SIMPLE", x.keep(simple), 0);
        CHECKS.due("rule of SIMPLE", x.rule(simple), 0);
    }

    private static void twelveRulesAtMost() {
        CHECKS.sentence("RULES, 12 at most, numbered from 0 on");
        LevelScores x = new LevelScores();
        int widest = Checks.bent(x, 6, 1, 2, 3, 4, 5, 6, 7, 8, 9, 10, 11, 12);
        x.plan(widest);
        for (int i = 0; i < 12; i++) {
            CHECKS.due("rule number " + i, x.rule(widest), i);
        }
        CHECKS.due("rule number 12", x.rule(widest), LevelScores.FULL);
        CHECKS.due("many(1)", x.many(1), 12);
        CHECKS.due("count of the last rule", x.count(11, 1000000), 0);
        CHECKS.due("count behind the last rule", x.count(12, 1), LevelScores.UNKNOWN);
        CHECKS.due("part of the last rule", total(x, 11), "1000000 2000000 3000000 4000000 5000000 6000000 7000000 8000000 9000000 10000000 11000000 12000000");
    }

    private static void weightIsACopy() {
        CHECKS.sentence("a WEIGHT, a SCORE LIKE it (a copy)");
        LevelScores x = new LevelScores();
        int weight = Checks.simple(x, 5);
        x.rule(weight);
        x.count(0, 2);
        x.set(weight, 0, 100);
        CHECKS.due("part after a change of the score", total(x, 0), "10");
        x.weight(0, weight);
        x.set(weight, 0, 7);
        CHECKS.due("part after a change of the new weight", total(x, 0), "200");
        x.drop();
        CHECKS.due("part after a drop of the score", total(x, 0), "200");
        x.nothing();
        CHECKS.due("part when its number has NOTHING", total(x, 0), "200");
    }

    private static void countZeroAtFirst() {
        CHECKS.sentence("a COUNT, 0 at first");
        LevelScores x = planOf(5, 6);
        CHECKS.due("part of a new rule", total(x, 0), "0");
        CHECKS.due("count(1, 9)", x.count(1, 9), 0);
        int simple = Checks.simple(x, 7);
        x.plan(simple);
        x.rule(simple);
        x.rule(simple);
        CHECKS.due("part of a new rule of a new plan", total(x, 1), "0");
        CHECKS.due("count(1, 3) of a new plan", x.count(1, 3), 0);
    }

    private static void zerosWithoutRules() {
        CHECKS.sentence("THE TOTAL the sum of all PARTS (0s without RULES)");
        int[][] forms = {{0, 0, 0}, {1, 0, 0}, {2, 0, 0}, {3, 6, 6}, {3, 0, 1}, {3, 1, 0}};
        for (int[] form : forms) {
            LevelScores x = new LevelScores();
            int like = x.make(form[0], form[1], form[2]);
            int size = x.told(like, 2);
            for (int level = 0; level < size; level++) {
                x.set(like, level, 9);
            }
            // A place that other levels have used must not show them.
            x.plan(x.act(0, like, like));
            x.drop();
            CHECKS.due("total of a plan of " + size, total(x, NONE), "0 ".repeat(size - 1) + "0");
            CHECKS.due("its shape", x.told(x.total(NONE), 0), form[0]);
            CHECKS.due("its hard levels", x.told(1, 1), x.told(like, 1));
        }
    }

    private static void noPartBeyond64Bits() {
        CHECKS.sentence("no level of a PART is beyond 64 bits");
        LevelScores x = planOf(MOST, LEAST);
        x.count(0, 1);
        x.count(1, 1);
        // The sum of twice most and once least would be no more than most - 1.
        CHECKS.due("twice most beside least", x.count(0, 2), LevelScores.WRAP);
        CHECKS.due("twice least beside most", x.count(1, 2), LevelScores.WRAP);
        CHECKS.due("total", total(x, NONE), "-1");
    }

    private static void noTotalBeyond64Bits() {
        CHECKS.sentence("no level of the TOTAL is beyond 64 bits");
        LevelScores x = planOf(MOST, 1, LEAST, -1);
        x.count(0, 1);
        CHECKS.due("one beside most", x.count(1, 1), LevelScores.WRAP);
        CHECKS.due("minus one beside most", x.count(3, 1), 0);
        CHECKS.due("one beside most and minus one", x.count(1, 1), 0);
        CHECKS.due("total", total(x, NONE), "" + MOST);
        CHECKS.due("two beside most and minus one", x.count(1, 2), LevelScores.WRAP);
        x.count(1, 0);
        x.count(0, 0);
        CHECKS.due("least beside minus one", x.count(2, 1), LevelScores.WRAP);
        x.count(3, 0);
        CHECKS.due("least alone", x.count(2, 1), 0);
        CHECKS.due("minus one beside least", x.count(3, 1), LevelScores.WRAP);
        CHECKS.due("total", total(x, NONE), "" + LEAST);
    }

    private static void exactWhateverWasBetween() {
        CHECKS.sentence("the exact ones, whatever was between");
        LevelScores x = planOf(MOST, MOST, LEAST, LEAST);
        CHECKS.due("most", x.count(0, 1), 0);
        CHECKS.due("and least", x.count(2, 1), 0);
        // Added in the rules' order the first two parts are beyond.
        CHECKS.due("and most", x.count(1, 1), 0);
        CHECKS.due("total", total(x, NONE), "" + (MOST - 1));
        CHECKS.due("and least", x.count(3, 1), 0);
        CHECKS.due("total", total(x, NONE), "-2");
        CHECKS.due("without the first most", x.count(0, 0), LevelScores.WRAP);
        CHECKS.due("total", total(x, NONE), "-2");
        LevelScores y = planOf(9223372036854L, 9223372036854L, -9223372036854L, 5);
        CHECKS.due("a million", y.count(0, 1000000), 0);
        CHECKS.due("less a million", y.count(2, 1000000), 0);
        CHECKS.due("and a million", y.count(1, 1000000), 0);
        CHECKS.due("and fives", y.count(3, 155161), 0);
        CHECKS.due("total", total(y, NONE), "9223372036854775805");
        CHECKS.due("and a five more", y.count(3, 155162), LevelScores.WRAP);
    }

    private static void upToFiveKept() {
        CHECKS.sentence("KEPT are up to 5 SCORES");
        LevelScores x = new LevelScores();
        int simple = Checks.simple(x, 0);
        for (int i = 1; i <= 8; i++) {
            x.set(simple, 0, i);
            CHECKS.due("keep(" + i + ")", x.keep(simple), 0);
            CHECKS.due("many(2)", x.many(2), Math.min(i, 5));
        }
        CHECKS.due("kept(4)", kept(x, 4), "4");
        CHECKS.due("kept(5)", x.kept(5), LevelScores.UNKNOWN);
    }

    private static void theGreatestOnesKept() {
        CHECKS.sentence("the greatest ones of those that were given to keep()");
        long[] given = {0, LEAST, MOST, -1, 1, MOST - 1, LEAST + 1, 0, 2};
        int[] places = {0, 1, 0, 2, 1, 1, NONE, 4, 2};
        LevelScores x = new LevelScores();
        int simple = Checks.simple(x, 0);
        for (int i = 0; i < given.length; i++) {
            x.set(simple, 0, given[i]);
            CHECKS.due("keep of " + given[i], x.keep(simple), places[i]);
        }
        String[] due = {"" + MOST, "" + (MOST - 1), "2", "1", "0"};
        for (int k = 0; k < 5; k++) {
            CHECKS.due("kept(" + k + ")", kept(x, k), due[k]);
        }
    }

    private static void theFirstOfLikeOnesAhead() {
        CHECKS.sentence("of like ones the one that came first ahead");
        LevelScores x = new LevelScores();
        int three = Checks.simple(x, 3);
        int four = Checks.simple(x, 4);
        CHECKS.due("three", x.keep(three), 0);
        CHECKS.due("three again", x.keep(three), 1);
        CHECKS.due("four", x.keep(four), 0);
        CHECKS.due("four again", x.keep(four), 1);
        CHECKS.due("three a third time", x.keep(three), 4);
        CHECKS.due("four a third time", x.keep(four), 2);
        CHECKS.due("three a fourth time", x.keep(three), NONE);
        CHECKS.due("four a fourth time", x.keep(four), 3);
        CHECKS.due("four a fifth time", x.keep(four), 4);
        CHECKS.due("four a sixth time", x.keep(four), NONE);
    }

    // ---- promises 14 and 15

    private static void planUnknown() {
        CHECKS.sentence("14: UNKNOWN");
        LevelScores x = new LevelScores();
        CHECKS.due("plan(0) of none", x.plan(0), LevelScores.UNKNOWN);
        x.rule(Checks.simple(x, 1));
        x.keep(0);
        int[] numbers = {-1, 1, 59, 60, LEAST_INT, MOST_INT};
        for (int number : numbers) {
            CHECKS.due("plan(" + number + ")", x.plan(number), LevelScores.UNKNOWN);
        }
        CHECKS.due("many(1)", x.many(1), 1);
        CHECKS.due("many(2)", x.many(2), 1);
    }

    private static void planNull() {
        CHECKS.sentence("14: NULL");
        LevelScores x = new LevelScores();
        x.rule(Checks.simple(x, 1));
        x.keep(0);
        x.nothing();
        CHECKS.due("plan(1)", x.plan(1), LevelScores.NULL);
        CHECKS.due("many(1)", x.many(1), 1);
        CHECKS.due("many(2)", x.many(2), 1);
        CHECKS.due("rule of SIMPLE", x.rule(0), 1);
    }

    private static void planHowManyRules() {
        CHECKS.sentence("14: how many RULES there were");
        LevelScores x = new LevelScores();
        int simple = Checks.simple(x, 1);
        CHECKS.due("plan without rules", x.plan(simple), 0);
        for (int i = 0; i < 12; i++) {
            x.rule(simple);
        }
        CHECKS.due("plan with twelve rules", x.plan(simple), 12);
        CHECKS.due("plan again", x.plan(simple), 0);
        CHECKS.due("rule then", x.rule(simple), 0);
    }

    private static void planAnew() {
        CHECKS.sentence("14: THE PLAN has the SHAPE of a SCORE, no RULES, nothing KEPT");
        LevelScores x = new LevelScores();
        int simple = Checks.simple(x, 1);
        x.rule(simple);
        x.keep(simple);
        CHECKS.due("plan of the SHAPE that it has", x.plan(simple), 1);
        CHECKS.due("many(1)", x.many(1), 0);
        CHECKS.due("many(2)", x.many(2), 0);
        CHECKS.due("kept(0)", x.kept(0), LevelScores.UNKNOWN);
        CHECKS.due("total(0)", x.total(0), LevelScores.UNKNOWN);
        CHECKS.due("keep then", x.keep(simple), 0);
        int bent = Checks.bent(x, 2, 1, 2, 3);
        x.plan(bent);
        CHECKS.due("rule of SIMPLE", x.rule(simple), LevelScores.CAST);
        CHECKS.due("keep of SIMPLE", x.keep(simple), LevelScores.CAST);
        x.drop();
        x.make(1, 0, 0);
        CHECKS.due("rule of TWO that has the plan's number", x.rule(bent), LevelScores.CAST);
        CHECKS.due("rule of BENT", x.rule(Checks.bent(x, 2, 0, 0, 0)), 0);
    }

    private static void ruleUnknown() {
        CHECKS.sentence("15: UNKNOWN (ahead of FULL)");
        LevelScores x = new LevelScores();
        CHECKS.due("rule(0) of none", x.rule(0), LevelScores.UNKNOWN);
        int simple = Checks.simple(x, 1);
        int[] numbers = {-1, 1, 59, 60, LEAST_INT, MOST_INT};
        for (int number : numbers) {
            CHECKS.due("rule(" + number + ")", x.rule(number), LevelScores.UNKNOWN);
        }
        for (int i = 0; i < 12; i++) {
            x.rule(simple);
        }
        for (int number : numbers) {
            CHECKS.due("rule(" + number + ") beside twelve", x.rule(number), LevelScores.UNKNOWN);
        }
    }

    private static void ruleFull() {
        CHECKS.sentence("15: FULL (ahead of NULL and CAST)");
        LevelScores x = planOf(1, 1, 1, 1, 1, 1, 1, 1, 1, 1, 1);
        int simple = Checks.simple(x, 1);
        CHECKS.due("rule number 11", x.rule(simple), 11);
        CHECKS.due("rule number 12", x.rule(simple), LevelScores.FULL);
        CHECKS.due("rule of NOTHING", x.rule(x.nothing()), LevelScores.FULL);
        CHECKS.due("rule of TWO", x.rule(Checks.two(x, 0, 0)), LevelScores.FULL);
        CHECKS.due("many(1)", x.many(1), 12);
        x.plan(simple);
        Checks.fill(x);
        CHECKS.due("rule of a new plan, beside 60 numbers", x.rule(simple), 0);
    }

    private static void ruleNull() {
        CHECKS.sentence("15: NULL");
        LevelScores x = new LevelScores();
        CHECKS.due("rule of NOTHING", x.rule(x.nothing()), LevelScores.NULL);
        CHECKS.due("many(1)", x.many(1), 0);
    }

    private static void ruleCast() {
        CHECKS.sentence("15: CAST: it is not LIKE THE PLAN");
        LevelScores x = new LevelScores();
        int bent = Checks.bent(x, 1, 1, 2);
        x.plan(bent);
        int[] others = {Checks.simple(x, 0), Checks.two(x, 0, 0), Checks.three(x, 0, 0, 0), Checks.bent(x, 2, 0, 0), Checks.bent(x, 0, 0, 0), Checks.bent(x, 1, 0, 0, 0)};
        for (int other : others) {
            CHECKS.due("rule(" + other + ")", x.rule(other), LevelScores.CAST);
        }
        CHECKS.due("many(1)", x.many(1), 0);
        CHECKS.due("rule of one LIKE it", x.rule(Checks.bent(x, 1, 3, 4)), 0);
    }

    // ---- promises 16 and 17

    private static void countUnknown() {
        CHECKS.sentence("16: UNKNOWN (ahead of OUTSIDE)");
        CHECKS.due("count(0, 1) of none", new LevelScores().count(0, 1), LevelScores.UNKNOWN);
        LevelScores x = planOf(1, 1);
        int[] rules = {-1, 2, 11, 12, LEAST_INT, MOST_INT};
        for (int rule : rules) {
            CHECKS.due("count(" + rule + ", 1)", x.count(rule, 1), LevelScores.UNKNOWN);
            CHECKS.due("count(" + rule + ", -1)", x.count(rule, -1), LevelScores.UNKNOWN);
        }
        CHECKS.due("total", total(x, NONE), "0");
    }

    private static void countOutside() {
        CHECKS.sentence("16: n (0 .. 1000000); OUTSIDE (ahead of WRAP)");
        LevelScores x = planOf(1, MOST);
        x.count(0, 4);
        int[] outside = {-1, 1000001, LEAST_INT, MOST_INT};
        for (int n : outside) {
            CHECKS.due("count(0, " + n + ")", x.count(0, n), LevelScores.OUTSIDE);
            CHECKS.due("count(1, " + n + ")", x.count(1, n), LevelScores.OUTSIDE);
        }
        CHECKS.due("count(0, 1000000)", x.count(0, 1000000), 4);
        CHECKS.due("total", total(x, NONE), "1000000");
        CHECKS.due("count(0, 0)", x.count(0, 0), 1000000);
        CHECKS.due("total", total(x, NONE), "0");
    }

    private static void countWhatItWas() {
        CHECKS.sentence("16: what it was");
        LevelScores x = planOf(MOST, 1);
        CHECKS.due("count(0, 1)", x.count(0, 1), 0);
        CHECKS.due("count(0, 1) again", x.count(0, 1), 1);
        CHECKS.due("count(0, 2)", x.count(0, 2), LevelScores.WRAP);
        CHECKS.due("count(0, 0) after a refused one", x.count(0, 0), 1);
        CHECKS.due("count(1, 0)", x.count(1, 0), 0);
    }

    /** What count() answers for the only rule of a plan. */
    private static int counted(long weight, int n) {
        return planOf(weight).count(0, n);
    }

    private static void countPartWraps() {
        CHECKS.sentence("16: WRAP: a PART");
        CHECKS.due("most once", counted(MOST, 1), 0);
        CHECKS.due("most twice", counted(MOST, 2), LevelScores.WRAP);
        CHECKS.due("a seventh of most, seven times", counted(MOST / 7, 7), 0);
        CHECKS.due("a seventh of most and one, seven times", counted(MOST / 7 + 1, 7), LevelScores.WRAP);
        CHECKS.due("a millionth of most, a million times", counted(MOST / 1000000, 1000000), 0);
        CHECKS.due("a millionth of most and one, a million times", counted(MOST / 1000000 + 1, 1000000), LevelScores.WRAP);
        CHECKS.due("a millionth of most and one, a million times less one", counted(MOST / 1000000 + 1, 999999), 0);
        CHECKS.due("least once", counted(LEAST, 1), 0);
        CHECKS.due("least twice", counted(LEAST, 2), LevelScores.WRAP);
        CHECKS.due("-2^44, 2^19 times", counted(-(1L << 44), 1 << 19), 0);
        CHECKS.due("2^44, 2^19 times", counted(1L << 44, 1 << 19), LevelScores.WRAP);
        CHECKS.due("-2^44 - 1, 2^19 times", counted(-(1L << 44) - 1, 1 << 19), LevelScores.WRAP);
        CHECKS.due("a millionth of least, a million times", counted(LEAST / 1000000, 1000000), 0);
        CHECKS.due("a millionth of least less one, a million times", counted(LEAST / 1000000 - 1, 1000000), LevelScores.WRAP);
        // These products are 0 in 64 bits.
        CHECKS.due("2^62, four times", counted(1L << 62, 4), LevelScores.WRAP);
        CHECKS.due("least, 2^19 times", counted(LEAST, 1 << 19), LevelScores.WRAP);
        LevelScores x = planOf(-(1L << 44));
        x.count(0, 1 << 19);
        CHECKS.due("total of -2^44, 2^19 times", total(x, NONE), "" + LEAST);
    }

    private static void countTotalWraps() {
        CHECKS.sentence("16: WRAP: THE TOTAL");
        LevelScores x = planOf(MOST / 2, MOST / 2, 1, -1);
        x.count(0, 1);
        CHECKS.due("two halves", x.count(1, 1), 0);
        CHECKS.due("and one", x.count(2, 1), 0);
        CHECKS.due("total", total(x, NONE), "" + MOST);
        CHECKS.due("and two", x.count(2, 2), LevelScores.WRAP);
        CHECKS.due("less one", x.count(3, 1), 0);
        CHECKS.due("and two, less one", x.count(2, 2), 1);
        CHECKS.due("total", total(x, NONE), "" + MOST);
        // A lesser count may lead beyond as well.
        CHECKS.due("no longer less one", x.count(3, 0), LevelScores.WRAP);
        CHECKS.due("total after it", total(x, NONE), "" + MOST);
        CHECKS.due("part after it", total(x, 3), "-1");
    }

    private static void countWrapsAtAnyLevel() {
        CHECKS.sentence("16: WRAP, whichever level and rule it is");
        for (int level = 0; level < 12; level++) {
            LevelScores x = new LevelScores();
            int weight = x.make(3, 6, 6);
            x.plan(weight);
            for (int rule = 0; rule < 12; rule++) {
                x.set(weight, level, rule == level ? MOST : 0);
                x.rule(weight);
            }
            CHECKS.due("most once at level " + level, x.count(level, 1), 0);
            CHECKS.due("most twice at level " + level, x.count(level, 2), LevelScores.WRAP);
            CHECKS.due("another rule", x.count((level + 1) % 12, 1000000), 0);
            x.set(weight, level, 1);
            CHECKS.due("one beside most at level " + level, x.weight((level + 1) % 12, weight), LevelScores.WRAP);
            CHECKS.due("the level of the total", Checks.at(x, x.total(NONE), level), "" + MOST);
        }
    }

    private static void weightUnknown() {
        CHECKS.sentence("17: UNKNOWN (both; ahead of NULL and CAST)");
        LevelScores none = new LevelScores();
        CHECKS.due("weight(0, 0) without a rule", none.weight(0, Checks.simple(none, 1)), LevelScores.UNKNOWN);
        LevelScores x = planOf(5);
        x.count(0, 1);
        CHECKS.due("weight(0, 0) without a score", x.weight(0, 0), LevelScores.UNKNOWN);
        int simple = Checks.simple(x, 1);
        int nothing = x.nothing();
        int two = Checks.two(x, 0, 0);
        int[] wrong = {-1, 12, 59, 60, LEAST_INT, MOST_INT};
        for (int number : wrong) {
            CHECKS.due("weight(0, " + number + ")", x.weight(0, number), LevelScores.UNKNOWN);
            CHECKS.due("weight(" + number + ", SIMPLE)", x.weight(number, simple), LevelScores.UNKNOWN);
            CHECKS.due("weight(" + number + ", NOTHING)", x.weight(number, nothing), LevelScores.UNKNOWN);
            CHECKS.due("weight(" + number + ", TWO)", x.weight(number, two), LevelScores.UNKNOWN);
        }
        CHECKS.due("weight(1, SIMPLE)", x.weight(1, simple), LevelScores.UNKNOWN);
        CHECKS.due("weight(0, 3)", x.weight(0, 3), LevelScores.UNKNOWN);
        CHECKS.due("total", total(x, NONE), "5");
    }

    private static void weightNull() {
        CHECKS.sentence("17: NULL");
        LevelScores x = planOf(5);
        x.count(0, 1);
        CHECKS.due("weight(0, NOTHING)", x.weight(0, x.nothing()), LevelScores.NULL);
        CHECKS.due("total", total(x, NONE), "5");
    }

    private static void weightCast() {
        CHECKS.sentence("17: CAST (ahead of WRAP)");
        LevelScores x = planOf(5);
        x.count(0, 2);
        CHECKS.due("weight(0, TWO)", x.weight(0, Checks.two(x, MOST, MOST)), LevelScores.CAST);
        CHECKS.due("weight(0, BENT)", x.weight(0, Checks.bent(x, 0, MOST)), LevelScores.CAST);
        CHECKS.due("total", total(x, NONE), "10");
    }

    /** What weight() answers for the only rule of a plan, and the total then. */
    private static String weighed(int n, long weight) {
        LevelScores x = planOf(1);
        x.count(0, n);
        int answer = x.weight(0, Checks.simple(x, weight));
        return answer + " " + total(x, NONE);
    }

    private static void weightWraps() {
        CHECKS.sentence("17: WRAP");
        CHECKS.due("most once", weighed(1, MOST), "1 " + MOST);
        CHECKS.due("most twice", weighed(2, MOST), LevelScores.WRAP + " 2");
        CHECKS.due("least once", weighed(1, LEAST), "1 " + LEAST);
        CHECKS.due("least twice", weighed(2, LEAST), LevelScores.WRAP + " 2");
        CHECKS.due("a millionth of most, a million times", weighed(1000000, 9223372036854L), "1 9223372036854000000");
        CHECKS.due("a millionth of most and one, a million times", weighed(1000000, 9223372036855L), LevelScores.WRAP + " 1000000");
        CHECKS.due("a millionth of least, a million times", weighed(1000000, -9223372036854L), "1 -9223372036854000000");
        CHECKS.due("a millionth of least less one, a million times", weighed(1000000, -9223372036855L), LevelScores.WRAP + " 1000000");
        LevelScores x = planOf(1, 1);
        int most = Checks.simple(x, MOST);
        int least = Checks.simple(x, LEAST);
        x.count(0, 1);
        x.count(1, 1);
        CHECKS.due("most beside one", x.weight(0, most), LevelScores.WRAP);
        CHECKS.due("total after it", total(x, NONE), "2");
        CHECKS.due("most less one beside one", x.weight(0, Checks.simple(x, MOST - 1)), 1);
        CHECKS.due("total", total(x, NONE), "" + MOST);
        CHECKS.due("least beside most less one", x.weight(1, least), 1);
        CHECKS.due("most beside least", x.weight(0, most), 1);
        CHECKS.due("least beside least", x.weight(0, least), LevelScores.WRAP);
        CHECKS.due("total after it", total(x, NONE), "-1");
        CHECKS.due("parts after it", total(x, 0) + " " + total(x, 1), MOST + " " + LEAST);
    }

    private static void weightWithoutACount() {
        CHECKS.sentence("17: its WEIGHT becomes another one: 1; the COUNT stays");
        LevelScores x = planOf(MOST, 1);
        x.count(0, 1);
        CHECKS.due("least, no time", x.weight(1, Checks.simple(x, LEAST)), 1);
        CHECKS.due("most, no time", x.weight(1, Checks.simple(x, MOST)), 1);
        CHECKS.due("its part", total(x, 1), "0");
        CHECKS.due("its count then", x.count(1, 1), LevelScores.WRAP);
        CHECKS.due("the other count", x.count(0, 1), 1);
        CHECKS.due("total", total(x, NONE), "" + MOST);
    }

    // ---- promises 18 and 19

    private static void totalUnknown() {
        CHECKS.sentence("18: UNKNOWN (ahead of FULL); rule = NONE is THE TOTAL");
        LevelScores x = planOf(5, 6);
        x.count(1, 1);
        int[] rules = {-2, 2, 11, 12, LEAST_INT, MOST_INT};
        for (int rule : rules) {
            CHECKS.due("total(" + rule + ")", x.total(rule), LevelScores.UNKNOWN);
        }
        CHECKS.due("many(0)", x.many(0), 0);
        CHECKS.due("total(NONE)", total(x, -1), "6");
        CHECKS.due("total(0)", total(x, 0), "0");
        CHECKS.due("total(1)", total(x, 1), "6");
        Checks.fill(x);
        for (int rule : rules) {
            CHECKS.due("total(" + rule + ") beside 60 numbers", x.total(rule), LevelScores.UNKNOWN);
        }
    }

    private static void totalFull() {
        CHECKS.sentence("18: FULL");
        LevelScores x = planOf(5);
        Checks.fill(x);
        CHECKS.due("total(NONE)", x.total(NONE), LevelScores.FULL);
        CHECKS.due("total(0)", x.total(0), LevelScores.FULL);
        CHECKS.due("many(0)", x.many(0), 60);
        x.drop();
        CHECKS.due("total(0) when there is room", x.total(0), 59);
    }

    private static void safeOutside() {
        CHECKS.sentence("19: n (0 .. 1000000); OUTSIDE");
        LevelScores x = planOf(1);
        int[] outside = {-1, 1000001, LEAST_INT, MOST_INT};
        for (int n : outside) {
            CHECKS.due("safe(" + n + ")", x.safe(n), LevelScores.OUTSIDE);
        }
        CHECKS.due("safe(0)", x.safe(0), 1);
        CHECKS.due("safe(1000000)", x.safe(1000000), 1);
    }

    private static void safeWithoutRules() {
        CHECKS.sentence("19: without RULES");
        LevelScores x = new LevelScores();
        CHECKS.due("safe(0) of a new object", x.safe(0), 1);
        CHECKS.due("safe(1000000) of a new object", x.safe(1000000), 1);
        x.rule(Checks.simple(x, MOST));
        CHECKS.due("safe(2) of most", x.safe(2), 0);
        x.plan(0);
        CHECKS.due("safe(1000000) of a new plan", x.safe(1000000), 1);
    }

    private static void safeAtTheEnds() {
        CHECKS.sentence("19: whether no level of THE TOTAL or of a PART could be beyond 64 bits");
        CHECKS.due("safe(0) of most", planOf(MOST).safe(0), 1);
        CHECKS.due("safe(1) of most", planOf(MOST).safe(1), 1);
        CHECKS.due("safe(2) of most", planOf(MOST).safe(2), 0);
        CHECKS.due("safe(1) of least", planOf(LEAST).safe(1), 1);
        CHECKS.due("safe(2) of least", planOf(LEAST).safe(2), 0);
        CHECKS.due("safe(7) of a seventh of most", planOf(MOST / 7).safe(7), 1);
        CHECKS.due("safe(8) of a seventh of most", planOf(MOST / 7).safe(8), 0);
        CHECKS.due("safe(2^19) of -2^44", planOf(-(1L << 44)).safe(1 << 19), 1);
        CHECKS.due("safe(2^19) of 2^44", planOf(1L << 44).safe(1 << 19), 0);
        CHECKS.due("safe(2^19 - 1) of 2^44", planOf(1L << 44).safe((1 << 19) - 1), 1);
        CHECKS.due("safe(1) of most - 1 and 1", planOf(MOST - 1, 1).safe(1), 1);
        CHECKS.due("safe(1) of most and 1", planOf(MOST, 1).safe(1), 0);
        CHECKS.due("safe(1) of least + 1 and -1", planOf(LEAST + 1, -1).safe(1), 1);
        CHECKS.due("safe(1) of least and -1", planOf(LEAST, -1).safe(1), 0);
        CHECKS.due("safe(0) of least and -1", planOf(LEAST, -1).safe(0), 1);
        CHECKS.due("safe(1000000) of a millionth of most", planOf(9223372036854L).safe(1000000), 1);
        CHECKS.due("safe(1000000) of a millionth of most and one", planOf(9223372036855L).safe(1000000), 0);
        // Sums that are 0 in 64 bits.
        CHECKS.due("safe(4) of 2^62", planOf(1L << 62).safe(4), 0);
        CHECKS.due("safe(1) of least and least", planOf(LEAST, LEAST).safe(1), 0);
    }

    private static void safeWhateverTheCounts() {
        CHECKS.sentence("19: whatever the COUNTS, if none is above n");
        CHECKS.due("safe(1) of most and least", planOf(MOST, LEAST).safe(1), 1);
        CHECKS.due("safe(2) of most and least", planOf(MOST, LEAST).safe(2), 0);
        CHECKS.due("safe(1) of most, 1 and -5", planOf(MOST, 1, -5).safe(1), 0);
        CHECKS.due("safe(1) of least, -1 and 5", planOf(LEAST, -1, 5).safe(1), 0);
        CHECKS.due("safe(1) of most, 0 and least", planOf(MOST, 0, LEAST).safe(1), 1);
        LevelScores x = planOf(MOST, 1);
        CHECKS.due("safe(1) of most and 1, no count", x.safe(1), 0);
        x.count(1, 1000000);
        CHECKS.due("safe(0) beside a count of a million", x.safe(0), 1);
        CHECKS.due("safe(1) beside a count of a million", x.safe(1), 0);
        CHECKS.due("the count then", x.count(1, 0), 1000000);
    }

    private static void safeAtAnyLevel() {
        CHECKS.sentence("19: whichever level it is");
        for (int level = 0; level < 12; level++) {
            LevelScores x = new LevelScores();
            int weight = x.make(3, 6, 6);
            x.plan(weight);
            x.set(weight, level, MOST);
            x.rule(weight);
            CHECKS.due("safe(1) of most at level " + level, x.safe(1), 1);
            CHECKS.due("safe(2) of most at level " + level, x.safe(2), 0);
            // Beyond at no level, for they stand at different ones.
            x.set(weight, level, 0);
            x.set(weight, (level + 1) % 12, MOST);
            x.rule(weight);
            CHECKS.due("safe(1) of most at two levels from " + level, x.safe(1), 1);
            x.set(weight, level, 1);
            x.rule(weight);
            CHECKS.due("safe(1) of most and one at level " + level, x.safe(1), 0);
        }
    }

    private static void safeTwelveRules() {
        CHECKS.sentence("19: with twelve RULES");
        long twelfth = MOST / 12;
        LevelScores x = planOf(twelfth, twelfth, twelfth, twelfth, twelfth, twelfth, twelfth, twelfth, twelfth, twelfth, twelfth, twelfth + 7);
        CHECKS.due("the sum is most", 12 * twelfth + 7, MOST);
        CHECKS.due("safe(1) of all that make most", x.safe(1), 1);
        CHECKS.due("safe(2) of all that make most", x.safe(2), 0);
        x.weight(11, Checks.simple(x, twelfth + 8));
        CHECKS.due("safe(1) of all that make most and one", x.safe(1), 0);
        LevelScores y = planOf(MOST, MOST, MOST, MOST, MOST, MOST, MOST, MOST, MOST, MOST, MOST, MOST);
        CHECKS.due("safe(1000000) of twelve mosts", y.safe(1000000), 0);
        LevelScores z = planOf(LEAST, LEAST, LEAST, LEAST, LEAST, LEAST, LEAST, LEAST, LEAST, LEAST, LEAST, LEAST);
        CHECKS.due("safe(1000000) of twelve leasts", z.safe(1000000), 0);
    }

    // ---- promises 20 to 23

    private static void keepUnknown() {
        CHECKS.sentence("20: UNKNOWN");
        LevelScores x = new LevelScores();
        CHECKS.due("keep(0) of none", x.keep(0), LevelScores.UNKNOWN);
        Checks.simple(x, 5);
        int[] numbers = {-1, 1, 59, 60, LEAST_INT, MOST_INT};
        for (int number : numbers) {
            CHECKS.due("keep(" + number + ")", x.keep(number), LevelScores.UNKNOWN);
        }
        CHECKS.due("many(2)", x.many(2), 0);
    }

    private static void keepNull() {
        CHECKS.sentence("20: NULL (also beside five)");
        LevelScores x = new LevelScores();
        int simple = Checks.simple(x, 5);
        int nothing = x.nothing();
        for (int i = 0; i < 5; i++) {
            CHECKS.due("keep of NOTHING beside " + i, x.keep(nothing), LevelScores.NULL);
            x.keep(simple);
        }
        CHECKS.due("keep of NOTHING beside five", x.keep(nothing), LevelScores.NULL);
        CHECKS.due("many(2)", x.many(2), 5);
    }

    private static void keepCast() {
        CHECKS.sentence("20: CAST: it is not LIKE THE PLAN (also beside five)");
        LevelScores x = new LevelScores();
        int simple = Checks.simple(x, 5);
        int[] others = {Checks.two(x, 9, 9), Checks.bent(x, 0, 9), Checks.bent(x, 1, 9)};
        for (int i = 0; i <= 5; i++) {
            for (int other : others) {
                CHECKS.due("keep(" + other + ") beside " + i, x.keep(other), LevelScores.CAST);
            }
            CHECKS.due("many(2)", x.many(2), i);
            x.keep(simple);
        }
        CHECKS.due("kept(0)", kept(x, 0), "5");
    }

    private static void keepNone() {
        CHECKS.sentence("20: NONE: there are five that are not less");
        LevelScores x = new LevelScores();
        int five = Checks.two(x, 5, 5);
        int less = Checks.two(x, 5, 4);
        int more = Checks.two(x, 5, 6);
        x.plan(five);
        for (int i = 0; i < 4; i++) {
            CHECKS.due("keep of five, call " + i, x.keep(five), i);
        }
        CHECKS.due("keep of less beside four", x.keep(less), 4);
        CHECKS.due("keep of less again", x.keep(less), NONE);
        CHECKS.due("keep of five instead of less", x.keep(five), 4);
        CHECKS.due("keep of five beside five", x.keep(five), NONE);
        CHECKS.due("keep of less beside five", x.keep(less), NONE);
        CHECKS.due("kept(4)", kept(x, 4), "5 5");
        CHECKS.due("many(2)", x.many(2), 5);
        CHECKS.due("keep of more beside five", x.keep(more), 0);
        CHECKS.due("kept(0) and kept(4)", kept(x, 0) + " " + kept(x, 4), "5 6 5 5");
    }

    private static void keepACopy() {
        CHECKS.sentence("20: A SCORE is given to be KEPT (a copy)");
        LevelScores x = new LevelScores();
        int simple = Checks.simple(x, 5);
        x.keep(simple);
        x.set(simple, 0, 9);
        CHECKS.due("kept(0) after a change of the score", kept(x, 0), "5");
        x.drop();
        CHECKS.due("kept(0) after a drop of the score", kept(x, 0), "5");
        int told = x.kept(0);
        x.set(told, 0, 77);
        CHECKS.due("kept(0) after a change of what it told", kept(x, 0), "5");
        Checks.fill(x);
        x.set(told, 0, 6);
        CHECKS.due("keep beside 60 numbers", x.keep(told), 0);
    }

    private static void keptUnknown() {
        CHECKS.sentence("21: UNKNOWN (ahead of FULL)");
        LevelScores x = new LevelScores();
        CHECKS.due("kept(0) at first", x.kept(0), LevelScores.UNKNOWN);
        int simple = Checks.simple(x, 5);
        for (int held = 1; held <= 5; held++) {
            x.keep(simple);
            CHECKS.due("the last of " + held, kept(x, held - 1), "5");
            CHECKS.due("behind the last of " + held, x.kept(held), LevelScores.UNKNOWN);
        }
        int[] places = {-1, 5, 6, LEAST_INT, MOST_INT};
        for (int k : places) {
            CHECKS.due("kept(" + k + ")", x.kept(k), LevelScores.UNKNOWN);
        }
        CHECKS.due("many(0)", x.many(0), 1);
        Checks.fill(x);
        for (int k : places) {
            CHECKS.due("kept(" + k + ") beside 60 numbers", x.kept(k), LevelScores.UNKNOWN);
        }
    }

    private static void keptFull() {
        CHECKS.sentence("21: FULL");
        LevelScores x = new LevelScores();
        x.keep(Checks.simple(x, 5));
        Checks.fill(x);
        CHECKS.due("kept(0)", x.kept(0), LevelScores.FULL);
        CHECKS.due("many(0)", x.many(0), 60);
        x.drop();
        CHECKS.due("kept(0) when there is room", x.kept(0), 59);
        CHECKS.due("its level", Checks.levels(x, 59), "5");
    }

    private static void manyOutside() {
        CHECKS.sentence("22: OUTSIDE");
        LevelScores x = new LevelScores();
        int[] outside = {-1, 5, LEAST_INT, MOST_INT};
        for (int what : outside) {
            CHECKS.due("many(" + what + ")", x.many(what), LevelScores.OUTSIDE);
        }
        CHECKS.due("many(0)", x.many(0), 0);
        CHECKS.due("many(4)", x.many(4), 0);
    }

    private static void manyAtTheEnds() {
        CHECKS.sentence("22: How many, when all is full");
        LevelScores x = new LevelScores();
        int widest = Checks.bent(x, 6, LEAST, LEAST, LEAST, LEAST, LEAST, LEAST, LEAST, LEAST, LEAST, LEAST, LEAST, LEAST);
        x.plan(widest);
        for (int i = 0; i < 13; i++) {
            x.rule(widest);
            x.keep(widest);
        }
        Checks.type(x, "[".repeat(301));
        x.print(widest);
        Checks.fill(x);
        x.nothing();
        int[] due = {60, 12, 5, 300, 263};
        for (int what = 0; what < 5; what++) {
            CHECKS.due("many(" + what + ")", x.many(what), due[what]);
        }
    }

    private static void dropUnknown() {
        CHECKS.sentence("23: UNKNOWN: there is none");
        LevelScores x = new LevelScores();
        CHECKS.due("drop() of none", x.drop(), LevelScores.UNKNOWN);
        CHECKS.due("many(0)", x.many(0), 0);
        x.nothing();
        CHECKS.due("drop() of the only one", x.drop(), 0);
        CHECKS.due("drop() of none again", x.drop(), LevelScores.UNKNOWN);
        CHECKS.due("number of the next", x.make(0, 0, 0), 0);
    }

    private static void dropTheLast() {
        CHECKS.sentence("23: The last number goes: how many there are");
        LevelScores x = new LevelScores();
        Checks.simple(x, 1);
        Checks.simple(x, 2);
        Checks.fill(x);
        for (int left = 59; left >= 2; left--) {
            CHECKS.due("drop()", x.drop(), left);
        }
        CHECKS.due("at(2, 0)", Checks.at(x, 2, 0), "IndexOutOfBoundsException");
        CHECKS.due("level of the second", Checks.levels(x, 1), "2");
        CHECKS.due("drop()", x.drop(), 1);
        CHECKS.due("level of the first", Checks.levels(x, 0), "1");
        CHECKS.due("order of the first and the dropped one", x.order(0, 1), LevelScores.UNKNOWN);
    }
}
