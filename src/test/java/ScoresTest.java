/** Promises 1 to 9: the scores themselves. */
public final class ScoresTest {
    private static final long MOST = Long.MAX_VALUE, LEAST = Long.MIN_VALUE;
    private static final Checks CHECKS = new Checks();

    public static void main(String[] args) {
        promise1NewObject();
        promise2Make();
        promise2MakeFull();
        promise3Nothing();
        promise4Set();
        promise5At();
        promise6Told();
        promise7Act();
        promise7ActWraps();
        promise7ActFails();
        promise8Times();
        promise8TimesWraps();
        promise8TimesFails();
        promise9Order();
        widestScores();
        CHECKS.end();
    }

    private static void promise1NewObject() {
        LevelScores x = new LevelScores();
        for (int what = 0; what < 5; what++) {
            CHECKS.due("many(" + what + ") of a new object", x.many(what), 0);
        }
        CHECKS.due("told(0, 0) of a new object", x.told(0, 0), LevelScores.UNKNOWN);
        CHECKS.due("total(0) of a new object", x.total(0), LevelScores.UNKNOWN);
        LevelScores other = new LevelScores();
        x.nothing();
        CHECKS.due("many(0) of another object", other.many(0), 0);
    }

    private static void promise2Make() {
        LevelScores x = new LevelScores();
        CHECKS.due("make(-1, 1, 1)", x.make(-1, 1, 1), LevelScores.OUTSIDE);
        CHECKS.due("make(4, 1, 1)", x.make(4, 1, 1), LevelScores.OUTSIDE);
        CHECKS.due("make(3, 7, 1)", x.make(3, 7, 1), LevelScores.OUTSIDE);
        CHECKS.due("make(3, 1, 7)", x.make(3, 1, 7), LevelScores.OUTSIDE);
        CHECKS.due("make(3, 0, 0)", x.make(3, 0, 0), LevelScores.OUTSIDE);
        CHECKS.due("make(3, 7, -1)", x.make(3, 7, -1), LevelScores.OUTSIDE);
        CHECKS.due("make(3, -1, 0)", x.make(3, -1, 0), LevelScores.SIZE);
        CHECKS.due("make(3, 0, -1)", x.make(3, 0, -1), LevelScores.SIZE);
        CHECKS.due("make(3, least, 6)", x.make(3, Integer.MIN_VALUE, 6), LevelScores.SIZE);
        CHECKS.due("make(3, 6, least)", x.make(3, 6, Integer.MIN_VALUE), LevelScores.SIZE);
        CHECKS.due("many(0) after refusals", x.many(0), 0);
        CHECKS.due("make(0, -5, 99)", x.make(0, -5, 99), 0);
        CHECKS.due("make(1, -5, 99)", x.make(1, -5, 99), 1);
        CHECKS.due("make(2, 0, 0)", x.make(2, 0, 0), 2);
        CHECKS.due("make(3, 6, 6)", x.make(3, 6, 6), 3);
        CHECKS.due("make(3, 6, 0)", x.make(3, 6, 0), 4);
        CHECKS.due("make(3, 0, 6)", x.make(3, 0, 6), 5);
        CHECKS.due("levels of SIMPLE", Checks.levels(x, 0), "0");
        CHECKS.due("levels of TWO", Checks.levels(x, 1), "0 0");
        CHECKS.due("levels of THREE", Checks.levels(x, 2), "0 0 0");
        CHECKS.due("levels of BENT 6 6", Checks.levels(x, 3), "0 0 0 0 0 0 0 0 0 0 0 0");
        CHECKS.due("levels of BENT 6 0", Checks.levels(x, 4), "0 0 0 0 0 0");
        CHECKS.due("levels of BENT 0 6", Checks.levels(x, 5), "0 0 0 0 0 0");
        for (int level = 0; level < 6; level++) {
            x.set(5, level, 9);
        }
        x.drop();
        CHECKS.due("make in a place used before", x.make(3, 0, 6), 5);
        CHECKS.due("levels of one in a place used before", Checks.levels(x, 5), "0 0 0 0 0 0");
    }

    private static void promise2MakeFull() {
        LevelScores x = new LevelScores();
        for (int i = 0; i < 60; i++) {
            CHECKS.due("make number " + i, x.make(i % 3, 0, 0), i);
        }
        CHECKS.due("make(0) when full", x.make(0, 0, 0), LevelScores.FULL);
        CHECKS.due("make(3, -1, 1) when full", x.make(3, -1, 1), LevelScores.FULL);
        CHECKS.due("make(3, 0, 0) when full", x.make(3, 0, 0), LevelScores.OUTSIDE);
        CHECKS.due("many(0) when full", x.many(0), 60);
    }

    private static void promise3Nothing() {
        LevelScores x = new LevelScores();
        CHECKS.due("nothing()", x.nothing(), 0);
        CHECKS.due("told(0, 0) of NOTHING", x.told(0, 0), LevelScores.NULL);
        x.make(0, 0, 0);
        CHECKS.due("nothing() third", x.nothing(), 2);
        Checks.fill(x);
        CHECKS.due("nothing() when full", x.nothing(), LevelScores.FULL);
        x.drop();
        CHECKS.due("make where NOTHING was", x.make(1, 0, 0), 59);
        CHECKS.due("levels where NOTHING was", Checks.levels(x, 59), "0 0");
        x.drop();
        CHECKS.due("nothing() where a SCORE was", x.nothing(), 59);
        CHECKS.due("set where a SCORE was", x.set(59, 0, 1), LevelScores.NULL);
    }

    private static void promise4Set() {
        LevelScores x = new LevelScores();
        CHECKS.due("set of no score", x.set(0, 0, 1), LevelScores.UNKNOWN);
        x.make(3, 1, 2);
        x.nothing();
        CHECKS.due("set(0, 0, least)", x.set(0, 0, LEAST), 1);
        CHECKS.due("set(0, 2, most)", x.set(0, 2, MOST), 1);
        CHECKS.due("levels set", Checks.levels(x, 0), LEAST + " 0 " + MOST);
        CHECKS.due("set(0, 3, 1)", x.set(0, 3, 1), LevelScores.INDEX);
        CHECKS.due("set(0, -1, 1)", x.set(0, -1, 1), LevelScores.INDEX);
        CHECKS.due("set(0, most, 1)", x.set(0, Integer.MAX_VALUE, 1), LevelScores.INDEX);
        CHECKS.due("set(-1, 0, 1)", x.set(-1, 0, 1), LevelScores.UNKNOWN);
        CHECKS.due("set(2, 9, 1)", x.set(2, 9, 1), LevelScores.UNKNOWN);
        CHECKS.due("set(1, 0, 1)", x.set(1, 0, 1), LevelScores.NULL);
        CHECKS.due("set(1, -1, 1)", x.set(1, -1, 1), LevelScores.NULL);
        CHECKS.due("levels after refusals", Checks.levels(x, 0), LEAST + " 0 " + MOST);
    }

    private static void promise5At() {
        LevelScores x = new LevelScores();
        CHECKS.due("at of no score", Checks.at(x, 0, 0), "IndexOutOfBoundsException");
        Checks.three(x, -5, 6, 7);
        x.nothing();
        CHECKS.due("at(0, 0)", Checks.at(x, 0, 0), "-5");
        CHECKS.due("at(0, 2)", Checks.at(x, 0, 2), "7");
        CHECKS.due("at(0, 3)", Checks.at(x, 0, 3), "IndexOutOfBoundsException");
        CHECKS.due("at(0, -1)", Checks.at(x, 0, -1), "IndexOutOfBoundsException");
        CHECKS.due("at(1, 0)", Checks.at(x, 1, 0), "NoSuchElementException");
        CHECKS.due("at(1, -1)", Checks.at(x, 1, -1), "NoSuchElementException");
        CHECKS.due("at(2, 0)", Checks.at(x, 2, 0), "IndexOutOfBoundsException");
        CHECKS.due("at(-1, 0)", Checks.at(x, -1, 0), "IndexOutOfBoundsException");
        CHECKS.due("at(60, 0)", Checks.at(x, 60, 0), "IndexOutOfBoundsException");
    }

    private static void promise6Told() {
        LevelScores x = new LevelScores();
        int[] made = {Checks.simple(x, -1), Checks.two(x, 0, -1), Checks.three(x, 0, -1, -1), Checks.bent(x, 4, 0, 0, 0, 0, -1), Checks.bent(x, 0, -1, -2)};
        int[] hard = {0, 1, 1, 4, 0};
        int[] all = {1, 2, 3, 5, 2};
        for (int i = 0; i < made.length; i++) {
            CHECKS.due("told(" + i + ", 0)", x.told(made[i], 0), Math.min(i, 3));
            CHECKS.due("told(" + i + ", 1)", x.told(made[i], 1), hard[i]);
            CHECKS.due("told(" + i + ", 2)", x.told(made[i], 2), all[i]);
            CHECKS.due("told(" + i + ", 3)", x.told(made[i], 3), 1);
        }
        x.set(3, 3, -1);
        CHECKS.due("told of BENT with a last hard level below 0", x.told(3, 3), 0);
        x.set(2, 0, -1);
        CHECKS.due("told of THREE with a hard level below 0", x.told(2, 3), 0);
        CHECKS.due("told(0, -1)", x.told(0, -1), LevelScores.OUTSIDE);
        CHECKS.due("told(0, 4)", x.told(0, 4), LevelScores.OUTSIDE);
        CHECKS.due("told(5, 4)", x.told(5, 4), LevelScores.UNKNOWN);
        CHECKS.due("told(-1, 0)", x.told(-1, 0), LevelScores.UNKNOWN);
        x.nothing();
        CHECKS.due("told(5, 3) of NOTHING", x.told(5, 3), LevelScores.NULL);
        CHECKS.due("told(5, 4) of NOTHING", x.told(5, 4), LevelScores.OUTSIDE);
    }

    private static void promise7Act() {
        LevelScores x = new LevelScores();
        int a = Checks.bent(x, 2, 1, -5, 9);
        int b = Checks.bent(x, 2, 3, 4, -9);
        String[] due = {"4 -1 0", "-2 -9 18", "3 4 -9", "1 -5 9", "3 4 9", "1 -5 -9"};
        for (int act = 0; act < due.length; act++) {
            CHECKS.due("act(" + act + ")", x.act(act, a, b), 2 + act);
            CHECKS.due("levels of act " + act, Checks.levels(x, 2 + act), due[act]);
            CHECKS.due("hard levels of act " + act, x.told(2 + act, 1), 2);
            CHECKS.due("shape of act " + act, x.told(2 + act, 0), 3);
        }
        CHECKS.due("levels of the greater one, the other way round", Checks.levels(x, x.act(2, b, a)), "3 4 -9");
        CHECKS.due("levels of the lesser one, the other way round", Checks.levels(x, x.act(3, b, a)), "1 -5 9");
        CHECKS.due("levels of one less itself", Checks.levels(x, x.act(1, a, a)), "0 0 0");
        CHECKS.due("levels of the greater of one", Checks.levels(x, x.act(2, a, a)), "1 -5 9");
        int copy = x.act(2, a, a);
        x.set(a, 0, 7);
        CHECKS.due("a copy of the greater one", Checks.levels(x, copy), "1 -5 9");
    }

    private static void promise7ActWraps() {
        LevelScores x = new LevelScores();
        int most = Checks.two(x, 0, MOST);
        int least = Checks.two(x, 0, LEAST);
        int one = Checks.two(x, 0, 1);
        int minus = Checks.two(x, 0, -1);
        int none = Checks.two(x, 0, 0);
        CHECKS.due("most + 1", x.act(0, most, one), LevelScores.WRAP);
        CHECKS.due("least + -1", x.act(0, least, minus), LevelScores.WRAP);
        CHECKS.due("least + least", x.act(0, least, least), LevelScores.WRAP);
        CHECKS.due("most - -1", x.act(1, most, minus), LevelScores.WRAP);
        CHECKS.due("least - 1", x.act(1, least, one), LevelScores.WRAP);
        CHECKS.due("0 - least", x.act(1, none, least), LevelScores.WRAP);
        CHECKS.due("many(0) after wraps", x.many(0), 5);
        CHECKS.due("levels of most + least", Checks.levels(x, x.act(0, most, least)), "0 -1");
        CHECKS.due("levels of most - most", Checks.levels(x, x.act(1, most, most)), "0 0");
        CHECKS.due("levels of least - least", Checks.levels(x, x.act(1, least, least)), "0 0");
        CHECKS.due("levels of -1 - least", Checks.levels(x, x.act(1, minus, least)), "0 " + MOST);
        CHECKS.due("levels of the greater", Checks.levels(x, x.act(2, least, most)), "0 " + MOST);
        CHECKS.due("levels of the lesser", Checks.levels(x, x.act(5, least, most)), "0 " + LEAST);
    }

    private static void promise7ActFails() {
        LevelScores x = new LevelScores();
        Checks.two(x, MOST, 0);
        x.nothing();
        Checks.bent(x, 1, 0, 0);
        CHECKS.due("act(0, 0, 3)", x.act(0, 0, 3), LevelScores.UNKNOWN);
        CHECKS.due("act(0, -1, 0)", x.act(0, -1, 0), LevelScores.UNKNOWN);
        CHECKS.due("act(9, 3, 0)", x.act(9, 3, 0), LevelScores.UNKNOWN);
        CHECKS.due("act(-1, 0, 0)", x.act(-1, 0, 0), LevelScores.OUTSIDE);
        CHECKS.due("act(6, 1, 0)", x.act(6, 1, 0), LevelScores.OUTSIDE);
        for (int act = 0; act < 6; act++) {
            CHECKS.due("act(" + act + ", 0, 1)", x.act(act, 0, 1), LevelScores.NULL);
            CHECKS.due("act(" + act + ", 1, 2)", x.act(act, 1, 2), LevelScores.NULL);
            CHECKS.due("act(" + act + ", 0, 2)", x.act(act, 0, 2), LevelScores.CAST);
        }
        CHECKS.due("act(0, 0, 0)", x.act(0, 0, 0), LevelScores.WRAP);
        Checks.fill(x);
        CHECKS.due("act(0, 1, 0) when full", x.act(0, 1, 0), LevelScores.FULL);
        CHECKS.due("act(6, 0, 0) when full", x.act(6, 0, 0), LevelScores.OUTSIDE);
    }

    private static void promise8Times() {
        LevelScores x = new LevelScores();
        int a = Checks.three(x, 7, -7, 0);
        CHECKS.due("7 -7 0 times 3 / 2", Checks.levels(x, x.times(a, 3, 2)), "10 -11 0");
        CHECKS.due("7 -7 0 times -3 / 2", Checks.levels(x, x.times(a, -3, 2)), "-11 10 0");
        CHECKS.due("7 -7 0 times 3 / -2", Checks.levels(x, x.times(a, 3, -2)), "-11 10 0");
        CHECKS.due("7 -7 0 times -3 / -2", Checks.levels(x, x.times(a, -3, -2)), "10 -11 0");
        CHECKS.due("7 -7 0 times 0 / -2", Checks.levels(x, x.times(a, 0, -2)), "0 0 0");
        CHECKS.due("7 -7 0 times 1 / most", Checks.levels(x, x.times(a, 1, Integer.MAX_VALUE)), "0 -1 0");
        CHECKS.due("7 -7 0 times 1 / least", Checks.levels(x, x.times(a, 1, Integer.MIN_VALUE)), "-1 0 0");
        CHECKS.due("shape of a product", x.told(x.times(a, 1, 1), 0), 2);
        int ends = Checks.two(x, MOST, LEAST);
        CHECKS.due("ends times 1 / 1", Checks.levels(x, x.times(ends, 1, 1)), MOST + " " + LEAST);
        CHECKS.due("ends times 3 / 3", Checks.levels(x, x.times(ends, 3, 3)), MOST + " " + LEAST);
        CHECKS.due("ends times least / least", Checks.levels(x, x.times(ends, Integer.MIN_VALUE, Integer.MIN_VALUE)), MOST + " " + LEAST);
        CHECKS.due("ends times most / least", Checks.levels(x, x.times(ends, Integer.MAX_VALUE, Integer.MIN_VALUE)), "-9223372032559808512 9223372032559808512");
        CHECKS.due("ends times 2 / 3", Checks.levels(x, x.times(ends, 2, 3)), "6148914691236517204 -6148914691236517206");
    }

    private static void promise8TimesWraps() {
        LevelScores x = new LevelScores();
        int most = Checks.two(x, 0, MOST);
        int least = Checks.two(x, 0, LEAST);
        CHECKS.due("least times -1 / 1", x.times(least, -1, 1), LevelScores.WRAP);
        CHECKS.due("least times 1 / -1", x.times(least, 1, -1), LevelScores.WRAP);
        CHECKS.due("least times least / most", x.times(least, Integer.MIN_VALUE, Integer.MAX_VALUE), LevelScores.WRAP);
        CHECKS.due("most times most / 1", x.times(most, Integer.MAX_VALUE, 1), LevelScores.WRAP);
        CHECKS.due("most times least / most", x.times(most, Integer.MIN_VALUE, Integer.MAX_VALUE), LevelScores.WRAP);
        CHECKS.due("least times most / most - 1", x.times(least, Integer.MAX_VALUE, Integer.MAX_VALUE - 1), LevelScores.WRAP);
        CHECKS.due("many(0) after wraps", x.many(0), 2);
        // Rounding down may bring the last number in, or lead out below.
        int near = Checks.simple(x, 6148914691236517205L);
        CHECKS.due("just below the end times 3 / 2", Checks.levels(x, x.times(near, 3, 2)), "" + MOST);
        CHECKS.due("just below the end times -3 / 2", Checks.levels(x, x.times(near, -3, 2)), "" + LEAST);
        int beyond = Checks.simple(x, 6148914691236517206L);
        CHECKS.due("just beyond the end times 3 / 2", x.times(beyond, 3, 2), LevelScores.WRAP);
    }

    private static void promise8TimesFails() {
        LevelScores x = new LevelScores();
        Checks.simple(x, MOST);
        x.nothing();
        CHECKS.due("times(2, 1, 0)", x.times(2, 1, 0), LevelScores.UNKNOWN);
        CHECKS.due("times(-1, 1, 1)", x.times(-1, 1, 1), LevelScores.UNKNOWN);
        CHECKS.due("times(1, 1, 0)", x.times(1, 1, 0), LevelScores.NULL);
        CHECKS.due("times(0, 0, 0)", x.times(0, 0, 0), LevelScores.DIVIDE);
        CHECKS.due("times(0, 2, 1)", x.times(0, 2, 1), LevelScores.WRAP);
        Checks.fill(x);
        CHECKS.due("times(1, 1, 0) when full", x.times(1, 1, 0), LevelScores.FULL);
        CHECKS.due("times(0, 1, 0) when full", x.times(0, 1, 0), LevelScores.FULL);
    }

    private static void promise9Order() {
        LevelScores x = new LevelScores();
        int a = Checks.bent(x, 1, -1, 5, 5);
        int b = Checks.bent(x, 1, -1, 5, 6);
        int c = Checks.bent(x, 1, 0, LEAST, 0);
        int d = Checks.bent(x, 2, 0, 0, 0);
        CHECKS.due("order by the last level", x.order(a, b), 1);
        CHECKS.due("order by the last level, the other way round", x.order(b, a), 3);
        CHECKS.due("order by the first level", x.order(c, b), 3);
        CHECKS.due("order by the first level, the other way round", x.order(b, c), 1);
        CHECKS.due("order of one and itself", x.order(a, a), 2);
        CHECKS.due("order of one and its copy", x.order(x.times(a, 1, 1), a), 2);
        CHECKS.due("order of BENT 1 2 and BENT 2 1", x.order(c, d), LevelScores.CAST);
        int most = Checks.simple(x, MOST);
        int least = Checks.simple(x, LEAST);
        CHECKS.due("order of least and most", x.order(least, most), 1);
        CHECKS.due("order of most and least", x.order(most, least), 3);
        CHECKS.due("order of TWO and BENT 1 1", x.order(Checks.two(x, 0, 0), Checks.bent(x, 1, 0, 0)), LevelScores.CAST);
        int nothing = x.nothing();
        CHECKS.due("order of one and NOTHING", x.order(a, nothing), LevelScores.NULL);
        CHECKS.due("order of NOTHING and NOTHING", x.order(nothing, nothing), LevelScores.NULL);
        CHECKS.due("order of NOTHING and no score", x.order(nothing, 59), LevelScores.UNKNOWN);
        CHECKS.due("order of no score and one", x.order(-1, a), LevelScores.UNKNOWN);
    }

    /** Promises 4 to 9 with all twelve levels. */
    private static void widestScores() {
        LevelScores x = new LevelScores();
        int a = Checks.bent(x, 6, 1, 2, 3, 4, 5, 6, 7, 8, 9, 10, 11, 12);
        int b = Checks.bent(x, 6, 1, 2, 3, 4, 5, 6, 7, 8, 9, 10, 11, 13);
        CHECKS.due("order of the widest", x.order(a, b), 1);
        CHECKS.due("order of the widest and itself", x.order(a, a), 2);
        CHECKS.due("the widest is feasible", x.told(a, 3), 1);
        CHECKS.due("sum of the widest", Checks.levels(x, x.act(0, a, b)), "2 4 6 8 10 12 14 16 18 20 22 25");
        CHECKS.due("difference of the widest", Checks.levels(x, x.act(1, b, a)), "0 0 0 0 0 0 0 0 0 0 0 1");
        CHECKS.due("the greater of the widest", x.order(x.act(2, a, b), b), 2);
        CHECKS.due("the lesser of the widest", x.order(x.act(3, a, b), a), 2);
        CHECKS.due("the greater levels of the widest", x.order(x.act(4, a, b), b), 2);
        CHECKS.due("the lesser levels of the widest", x.order(x.act(5, a, b), a), 2);
        CHECKS.due("the widest times 1 / 2", Checks.levels(x, x.times(a, 1, 2)), "0 1 1 2 2 3 3 4 4 5 5 6");
        CHECKS.due("set(0, 12, 1) of the widest", x.set(a, 12, 1), LevelScores.INDEX);
        CHECKS.due("at(0, 12) of the widest", Checks.at(x, a, 12), "IndexOutOfBoundsException");
        x.set(b, 5, -1);
        CHECKS.due("the widest with the last hard level below 0", x.told(b, 3), 0);
    }
}
