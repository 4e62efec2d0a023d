/** Promises 14 to 23: the plan, what is kept, and how many there are. */
public final class PlanTest {
    private static final long MOST = Long.MAX_VALUE, LEAST = Long.MIN_VALUE;
    private static final Checks CHECKS = new Checks();

    public static void main(String[] args) {
        promise14Plan();
        promise15Rule();
        promise16Count();
        promise16CountWraps();
        promise17Weight();
        promise17WeightWraps();
        promise18Total();
        promise19Safe();
        promise20Keep();
        promise20KeepFails();
        promise21Kept();
        promise22Many();
        promise23Drop();
        widestPlan();
        CHECKS.end();
    }

    private static String total(LevelScores x, int rule) {
        return Checks.levelsDropped(x, x.total(rule));
    }

    private static void promise14Plan() {
        LevelScores x = new LevelScores();
        CHECKS.due("plan of no score", x.plan(0), LevelScores.UNKNOWN);
        int simple = Checks.simple(x, 5);
        int bent = Checks.bent(x, 2, 1, 2, 3);
        int nothing = x.nothing();
        CHECKS.due("rule at first", x.rule(simple), 0);
        CHECKS.due("second rule", x.rule(simple), 1);
        x.keep(simple);
        x.count(0, 3);
        CHECKS.due("plan of NOTHING", x.plan(nothing), LevelScores.NULL);
        CHECKS.due("plan(-1)", x.plan(-1), LevelScores.UNKNOWN);
        CHECKS.due("plan(3)", x.plan(3), LevelScores.UNKNOWN);
        CHECKS.due("rules after refusals", x.many(1), 2);
        CHECKS.due("plan of BENT", x.plan(bent), 2);
        CHECKS.due("rules after plan", x.many(1), 0);
        CHECKS.due("kept after plan", x.many(2), 0);
        CHECKS.due("total after plan", total(x, LevelScores.NONE), "0 0 0");
        CHECKS.due("rule of the old shape", x.rule(simple), LevelScores.CAST);
        CHECKS.due("rule of another BENT", x.rule(Checks.bent(x, 1, 0, 0, 0)), LevelScores.CAST);
        CHECKS.due("rule of the new shape", x.rule(bent), 0);
        CHECKS.due("its count is 0 again", x.count(0, 1), 0);
        CHECKS.due("plan of the same shape", x.plan(bent), 1);
        CHECKS.due("plan without rules", x.plan(simple), 0);
    }

    private static void promise15Rule() {
        LevelScores x = new LevelScores();
        CHECKS.due("rule of no score", x.rule(0), LevelScores.UNKNOWN);
        int simple = Checks.simple(x, 5);
        int two = Checks.two(x, 5, 5);
        int nothing = x.nothing();
        CHECKS.due("rule of NOTHING", x.rule(nothing), LevelScores.NULL);
        CHECKS.due("rule that is not like the plan", x.rule(two), LevelScores.CAST);
        for (int i = 0; i < 12; i++) {
            CHECKS.due("rule number " + i, x.rule(simple), i);
        }
        CHECKS.due("rule number 12", x.rule(simple), LevelScores.FULL);
        CHECKS.due("rule of NOTHING when full", x.rule(nothing), LevelScores.FULL);
        CHECKS.due("rule that is not like it when full", x.rule(two), LevelScores.FULL);
        CHECKS.due("rule of no score when full", x.rule(9), LevelScores.UNKNOWN);
        x.set(simple, 0, 100);
        x.count(11, 1);
        CHECKS.due("part of a rule whose score was changed", total(x, 11), "5");
        CHECKS.due("rules", x.many(1), 12);
    }

    private static void promise16Count() {
        LevelScores x = new LevelScores();
        CHECKS.due("count of no rule", x.count(0, 1), LevelScores.UNKNOWN);
        x.rule(Checks.simple(x, -3));
        CHECKS.due("count(-1, 1)", x.count(-1, 1), LevelScores.UNKNOWN);
        CHECKS.due("count(1, -1)", x.count(1, -1), LevelScores.UNKNOWN);
        CHECKS.due("count(0, -1)", x.count(0, -1), LevelScores.OUTSIDE);
        CHECKS.due("count(0, 1000001)", x.count(0, 1000001), LevelScores.OUTSIDE);
        CHECKS.due("count(0, 1000000)", x.count(0, 1000000), 0);
        CHECKS.due("count(0, 7)", x.count(0, 7), 1000000);
        CHECKS.due("count(0, 0)", x.count(0, 0), 7);
        CHECKS.due("count(0, 2)", x.count(0, 2), 0);
        CHECKS.due("total after count", total(x, LevelScores.NONE), "-6");
    }

    private static void promise16CountWraps() {
        LevelScores x = new LevelScores();
        x.plan(Checks.two(x, 0, 0));
        x.rule(Checks.two(x, 1, MOST));
        x.rule(Checks.two(x, 1, 1));
        x.rule(Checks.two(x, 1, LEAST));
        CHECKS.due("most once", x.count(0, 1), 0);
        CHECKS.due("most twice", x.count(0, 2), LevelScores.WRAP);
        CHECKS.due("one more than most", x.count(1, 1), LevelScores.WRAP);
        CHECKS.due("total after wraps", total(x, LevelScores.NONE), "1 " + MOST);
        CHECKS.due("least once beside most", x.count(2, 1), 0);
        CHECKS.due("total of most and least", total(x, LevelScores.NONE), "2 -1");
        CHECKS.due("a part beyond, though the sum is not", x.count(0, 2), LevelScores.WRAP);
        CHECKS.due("a part below, though the sum is not", x.count(2, 2), LevelScores.WRAP);
        // Between, in the rules' order, the sum is beyond; the exact one is not.
        CHECKS.due("a million beside most and least", x.count(1, 1000000), 0);
        CHECKS.due("total of all", total(x, LevelScores.NONE), "1000002 999999");
        CHECKS.due("without least the sum would be beyond", x.count(2, 0), LevelScores.WRAP);
        CHECKS.due("its count is what it was", x.count(2, 1), 1);
        CHECKS.due("count(1, 0)", x.count(1, 0), 1000000);
        CHECKS.due("count(2, 0)", x.count(2, 0), 1);
        CHECKS.due("count(0, 0)", x.count(0, 0), 1);
        CHECKS.due("least twice", x.count(2, 2), LevelScores.WRAP);
        CHECKS.due("least a million times", x.count(2, 1000000), LevelScores.WRAP);
    }

    private static void promise17Weight() {
        LevelScores x = new LevelScores();
        int simple = Checks.simple(x, 5);
        int two = Checks.two(x, 5, 5);
        int nothing = x.nothing();
        CHECKS.due("weight of no rule", x.weight(0, simple), LevelScores.UNKNOWN);
        x.rule(simple);
        x.count(0, 3);
        CHECKS.due("weight(0, 3)", x.weight(0, 3), LevelScores.UNKNOWN);
        CHECKS.due("weight(0, -1)", x.weight(0, -1), LevelScores.UNKNOWN);
        CHECKS.due("weight(-1, 0)", x.weight(-1, 0), LevelScores.UNKNOWN);
        CHECKS.due("weight(1, NOTHING)", x.weight(1, nothing), LevelScores.UNKNOWN);
        CHECKS.due("weight(0, NOTHING)", x.weight(0, nothing), LevelScores.NULL);
        CHECKS.due("weight(0, TWO)", x.weight(0, two), LevelScores.CAST);
        CHECKS.due("total after refusals", total(x, LevelScores.NONE), "15");
        x.set(simple, 0, -8);
        CHECKS.due("weight(0, SIMPLE)", x.weight(0, simple), 1);
        CHECKS.due("total priced anew", total(x, LevelScores.NONE), "-24");
        x.set(simple, 0, 1);
        CHECKS.due("the weight is a copy", total(x, LevelScores.NONE), "-24");
        CHECKS.due("the count is what it was", x.count(0, 3), 3);
    }

    private static void promise17WeightWraps() {
        LevelScores x = new LevelScores();
        int most = Checks.simple(x, MOST);
        int least = Checks.simple(x, LEAST);
        int one = Checks.simple(x, 1);
        x.rule(one);
        x.rule(one);
        CHECKS.due("most without a count", x.weight(0, most), 1);
        CHECKS.due("one again", x.weight(0, one), 1);
        x.count(0, 2);
        CHECKS.due("most twice", x.weight(0, most), LevelScores.WRAP);
        CHECKS.due("least twice", x.weight(0, least), LevelScores.WRAP);
        CHECKS.due("total after wraps", total(x, LevelScores.NONE), "2");
        x.count(0, 1);
        x.count(1, 1);
        CHECKS.due("most beside one", x.weight(0, most), LevelScores.WRAP);
        CHECKS.due("least beside one", x.weight(0, least), 1);
        CHECKS.due("most beside least", x.weight(1, most), 1);
        CHECKS.due("total of most and least", total(x, LevelScores.NONE), "-1");
        CHECKS.due("most beside most", x.weight(0, most), LevelScores.WRAP);
        CHECKS.due("least beside least", x.weight(1, least), LevelScores.WRAP);
        int half = Checks.simple(x, 1L << 62);
        CHECKS.due("a half beside most", x.weight(0, half), LevelScores.WRAP);
        CHECKS.due("minus a half twice", x.weight(0, Checks.simple(x, -(1L << 62))) + x.count(0, 2), 2);
        CHECKS.due("a part beyond, though the sum is not", x.weight(0, Checks.simple(x, -(1L << 62) - 1)), LevelScores.WRAP);
        CHECKS.due("parts after wraps", total(x, 0) + " " + total(x, 1), LEAST + " " + MOST);
    }

    private static void promise18Total() {
        LevelScores x = new LevelScores();
        CHECKS.due("total without rules", x.total(LevelScores.NONE), 0);
        CHECKS.due("its shape", x.told(0, 0), 0);
        CHECKS.due("its level", Checks.levels(x, 0), "0");
        int bent = Checks.bent(x, 1, 2, -3, 4);
        x.plan(bent);
        x.rule(bent);
        x.rule(Checks.bent(x, 1, 0, 1, -1));
        x.count(0, 10);
        x.count(1, 5);
        CHECKS.due("number of the total", x.total(LevelScores.NONE), 3);
        CHECKS.due("levels of the total", Checks.levels(x, 3), "20 -25 35");
        CHECKS.due("hard levels of the total", x.told(3, 1), 1);
        CHECKS.due("number of a part", x.total(0), 4);
        CHECKS.due("levels of part 0", Checks.levels(x, 4), "20 -30 40");
        CHECKS.due("levels of part 1", Checks.levels(x, x.total(1)), "0 5 -5");
        CHECKS.due("shape of a part", x.told(4, 0), 3);
        CHECKS.due("total(2)", x.total(2), LevelScores.UNKNOWN);
        CHECKS.due("total(-2)", x.total(-2), LevelScores.UNKNOWN);
        x.count(0, 0);
        CHECKS.due("a total that was told stays", Checks.levels(x, 3), "20 -25 35");
        Checks.fill(x);
        CHECKS.due("total when full", x.total(LevelScores.NONE), LevelScores.FULL);
        CHECKS.due("part when full", x.total(0), LevelScores.FULL);
        CHECKS.due("no part when full", x.total(2), LevelScores.UNKNOWN);
    }

    private static void promise19Safe() {
        LevelScores x = new LevelScores();
        CHECKS.due("safe(-1)", x.safe(-1), LevelScores.OUTSIDE);
        CHECKS.due("safe(1000001)", x.safe(1000001), LevelScores.OUTSIDE);
        CHECKS.due("safe without rules", x.safe(1000000), 1);
        int most = Checks.simple(x, MOST);
        int least = Checks.simple(x, LEAST);
        int one = Checks.simple(x, 1);
        x.rule(most);
        x.rule(least);
        CHECKS.due("safe(0) of most and least", x.safe(0), 1);
        CHECKS.due("safe(1) of most and least", x.safe(1), 1);
        CHECKS.due("safe(2) of most and least", x.safe(2), 0);
        x.rule(one);
        CHECKS.due("safe(1) of most, least and one", x.safe(1), 0);
        x.set(one, 0, -1);
        x.weight(2, one);
        CHECKS.due("safe(1) of most, least and minus one", x.safe(1), 0);
        CHECKS.due("safe(0) of most, least and minus one", x.safe(0), 1);
        x.plan(Checks.two(x, 0, 0));
        x.rule(Checks.two(x, 9223372036854L, 0));
        CHECKS.due("safe of a million times nine billion thousands", x.safe(1000000), 1);
        x.rule(Checks.two(x, 0, -9223372036855L));
        CHECKS.due("safe of a last level too low", x.safe(1000000), 0);
        CHECKS.due("safe of it, one count less", x.safe(999999), 1);
        x.plan(most);
        for (int i = 0; i < 12; i++) {
            x.rule(most);
        }
        CHECKS.due("safe(1000000) of twelve mosts", x.safe(1000000), 0);
        CHECKS.due("safe(0) of twelve mosts", x.safe(0), 1);
    }

    private static void promise20Keep() {
        LevelScores x = new LevelScores();
        int[] scores = new int[8];
        x.plan(Checks.two(x, 0, 0));
        for (int i = 0; i < scores.length; i++) {
            scores[i] = Checks.two(x, i / 4, i % 4);
        }
        int[] given = {3, 1, 3, 5, 0, 0, 0, 1, 7, 7, 3, 7, 7, 7, 7, 6};
        int[] places = {0, 1, 1, 0, 4, -1, -1, 4, 0, 1, -1, 2, 3, 4, -1, -1};
        for (int i = 0; i < given.length; i++) {
            CHECKS.due("keep, call " + i, x.keep(scores[given[i]]), places[i]);
            CHECKS.due("kept after call " + i, x.many(2), Math.min(i + 1, 5));
        }
    }

    private static void promise20KeepFails() {
        LevelScores x = new LevelScores();
        CHECKS.due("keep of no score", x.keep(0), LevelScores.UNKNOWN);
        int two = Checks.two(x, 0, 0);
        int nothing = x.nothing();
        int simple = Checks.simple(x, 9);
        CHECKS.due("keep(-1)", x.keep(-1), LevelScores.UNKNOWN);
        CHECKS.due("keep of NOTHING", x.keep(nothing), LevelScores.NULL);
        CHECKS.due("keep of one not like the plan", x.keep(two), LevelScores.CAST);
        CHECKS.due("kept after refusals", x.many(2), 0);
        for (int i = 0; i < 5; i++) {
            CHECKS.due("keep, call " + i, x.keep(simple), i);
        }
        CHECKS.due("keep of NOTHING beside five", x.keep(nothing), LevelScores.NULL);
        CHECKS.due("keep of one not like the plan beside five", x.keep(two), LevelScores.CAST);
        CHECKS.due("keep of the same beside five", x.keep(simple), LevelScores.NONE);
        Checks.fill(x);
        x.set(simple, 0, 10);
        CHECKS.due("keep when full", x.keep(simple), 0);
    }

    private static void promise21Kept() {
        LevelScores x = new LevelScores();
        CHECKS.due("kept(0) at first", x.kept(0), LevelScores.UNKNOWN);
        int bent = Checks.bent(x, 1, 0, 0, 0);
        x.plan(bent);
        long[] given = {4, -2, 9, 4, 7, 8, -3};
        for (long v : given) {
            x.set(bent, 2, v);
            x.keep(bent);
        }
        String[] due = {"0 0 9", "0 0 8", "0 0 7", "0 0 4", "0 0 4"};
        for (int k = 0; k < due.length; k++) {
            CHECKS.due("kept(" + k + ")", x.kept(k), 1 + k);
            CHECKS.due("levels of kept " + k, Checks.levels(x, 1 + k), due[k]);
            CHECKS.due("shape of kept " + k, x.told(1 + k, 0), 3);
            CHECKS.due("hard levels of kept " + k, x.told(1 + k, 1), 1);
        }
        CHECKS.due("kept(5)", x.kept(5), LevelScores.UNKNOWN);
        CHECKS.due("kept(-1)", x.kept(-1), LevelScores.UNKNOWN);
        x.set(1, 2, 1000);
        CHECKS.due("kept is a copy", Checks.levels(x, x.kept(0)), "0 0 9");
        Checks.fill(x);
        CHECKS.due("kept(0) when full", x.kept(0), LevelScores.FULL);
        CHECKS.due("kept(5) when full", x.kept(5), LevelScores.UNKNOWN);
    }

    private static void promise22Many() {
        LevelScores x = new LevelScores();
        CHECKS.due("many(-1)", x.many(-1), LevelScores.OUTSIDE);
        CHECKS.due("many(5)", x.many(5), LevelScores.OUTSIDE);
        int simple = Checks.simple(x, 1234);
        x.nothing();
        x.rule(simple);
        x.rule(simple);
        x.rule(simple);
        x.keep(simple);
        Checks.type(x, "12345");
        x.print(simple);
        int[] due = {2, 3, 1, 5, 4};
        for (int what = 0; what < due.length; what++) {
            CHECKS.due("many(" + what + ")", x.many(what), due[what]);
        }
    }

    private static void promise23Drop() {
        LevelScores x = new LevelScores();
        CHECKS.due("drop of none", x.drop(), LevelScores.UNKNOWN);
        int first = Checks.simple(x, 7);
        x.nothing();
        Checks.simple(x, 8);
        x.rule(2);
        x.count(0, 2);
        x.keep(2);
        CHECKS.due("drop of the third", x.drop(), 2);
        CHECKS.due("told of the third", x.told(2, 0), LevelScores.UNKNOWN);
        CHECKS.due("total after drop", total(x, LevelScores.NONE), "16");
        CHECKS.due("drop of NOTHING", x.drop(), 1);
        CHECKS.due("levels of the first", Checks.levels(x, first), "7");
        CHECKS.due("kept after drop", Checks.levels(x, x.kept(0)), "8");
        CHECKS.due("drop of what was kept", x.drop(), 1);
        CHECKS.due("drop of the first", x.drop(), 0);
        CHECKS.due("drop of none again", x.drop(), LevelScores.UNKNOWN);
        CHECKS.due("many(0) after all drops", x.many(0), 0);
    }

    /** Promises 14 to 21 with all twelve levels and all twelve rules. */
    private static void widestPlan() {
        LevelScores x = new LevelScores();
        int a = Checks.bent(x, 6, 1, 2, 3, 4, 5, 6, 7, 8, 9, 10, 11, 12);
        x.plan(a);
        for (int rule = 0; rule < 12; rule++) {
            CHECKS.due("rule number " + rule + " of the widest", x.rule(a), rule);
            CHECKS.due("count of rule " + rule + " of the widest", x.count(rule, rule), 0);
        }
        CHECKS.due("total of the widest", total(x, LevelScores.NONE), "66 132 198 264 330 396 462 528 594 660 726 792");
        CHECKS.due("part of the widest", total(x, 11), "11 22 33 44 55 66 77 88 99 110 121 132");
        CHECKS.due("safe of the widest", x.safe(1000000), 1);
        for (int i = 0; i < 5; i++) {
            x.set(a, 11, 12 + i);
            CHECKS.due("keep of the widest, call " + i, x.keep(a), 0);
        }
        CHECKS.due("kept of the widest", Checks.levels(x, x.kept(4)), "1 2 3 4 5 6 7 8 9 10 11 12");
        x.set(a, 11, Long.MAX_VALUE);
        CHECKS.due("weight of the widest, eleven times", x.weight(11, a), LevelScores.WRAP);
        CHECKS.due("weight of the widest, no time", x.weight(0, a), 1);
        CHECKS.due("count of the widest", x.count(0, 1), LevelScores.WRAP);
        CHECKS.due("safe of the widest with a last level too high", x.safe(1), 0);
    }
}
