/** The boundary cases of part 1 of the terms and of promises 1 to 9: a test for each sentence that names one. */
public final class ScoreEdgesTest {
    private static final long MOST = Long.MAX_VALUE, LEAST = Long.MIN_VALUE;
    private static final int MOST_INT = Integer.MAX_VALUE, LEAST_INT = Integer.MIN_VALUE;
    private static final Checks CHECKS = new Checks();

    public static void main(String[] args) {
        sixtyAtMost();
        numberedFromZero();
        levelsOfShapes();
        levelsOfBent();
        wholeNumbersOf64Bits();
        likeScores();
        lessAtTheFirstDifference();
        feasible();
        newObject();
        makeShape();
        makeAboveSix();
        makeBothZero();
        makeBelowZero();
        makeLooksAtBentAlone();
        makeZeroAtAllLevels();
        nothingIsANumber();
        setLevelAlone();
        setUnknown();
        setNull();
        setIndex();
        atNoSuchScore();
        atNothing();
        atNoSuchLevel();
        toldUnknown();
        toldOutside();
        toldNull();
        actUnknown();
        actOutside();
        actNull();
        actCast();
        actSumAtTheEnds();
        actDifferenceAtTheEnds();
        actWrapsAtAnyLevel();
        actOthersNeverWrap();
        actOfTheSame();
        timesUnknown();
        timesNull();
        timesDivide();
        timesRoundsDown();
        timesExactly();
        timesWraps();
        timesWrapsAtAnyLevel();
        orderUnknown();
        orderNull();
        orderCast();
        theWidest();
        everyMakerWhenFull();
        everyMakerInAPlaceUsedBefore();
        CHECKS.end();
    }

    // ---- part 1 of the terms

    private static void sixtyAtMost() {
        CHECKS.sentence("SCORES, 60 at most");
        LevelScores x = new LevelScores();
        for (int i = 0; i < 60; i++) {
            CHECKS.due("number " + i, i % 2 == 0 ? x.make(3, 6, 6) : x.nothing(), i);
        }
        CHECKS.due("many(0)", x.many(0), 60);
        CHECKS.due("make(0, 0, 0)", x.make(0, 0, 0), LevelScores.FULL);
        CHECKS.due("nothing()", x.nothing(), LevelScores.FULL);
        CHECKS.due("many(0)", x.many(0), 60);
        CHECKS.due("set of the last level of the last score", x.set(58, 11, LEAST), 1);
        CHECKS.due("the last level of the last score", Checks.at(x, 58, 11), "" + LEAST);
    }

    private static void numberedFromZero() {
        CHECKS.sentence("numbered from 0 on as they are made");
        LevelScores x = new LevelScores();
        CHECKS.due("first", x.make(0, 0, 0), 0);
        CHECKS.due("second", x.make(1, 0, 0), 1);
        x.make(4, 0, 0);
        x.make(3, -1, 0);
        CHECKS.due("after refused ones", x.make(2, 0, 0), 2);
        x.drop();
        CHECKS.due("after a drop", x.make(0, 0, 0), 2);
    }

    private static void dueForm(LevelScores x, int score, int shape, int hard, int size) {
        CHECKS.due("told(" + score + ", 0)", x.told(score, 0), shape);
        CHECKS.due("told(" + score + ", 1)", x.told(score, 1), hard);
        CHECKS.due("told(" + score + ", 2)", x.told(score, 2), size);
        CHECKS.due("set of its last level", x.set(score, size - 1, 1), 1);
        CHECKS.due("set behind its last level", x.set(score, size, 1), LevelScores.INDEX);
    }

    private static void levelsOfShapes() {
        CHECKS.sentence("SIMPLE: one soft level; TWO: a hard one, a soft one; THREE: hard, medium, soft");
        LevelScores x = new LevelScores();
        dueForm(x, x.make(0, 6, 6), 0, 0, 1);
        dueForm(x, x.make(1, 6, 6), 1, 1, 2);
        dueForm(x, x.make(2, 6, 6), 2, 1, 3);
    }

    private static void levelsOfBent() {
        CHECKS.sentence("BENT: h hard ones, then s soft ones (0 .. 6 each, not both 0)");
        LevelScores x = new LevelScores();
        for (int h = 0; h <= 6; h++) {
            for (int s = h == 0 ? 1 : 0; s <= 6; s++) {
                dueForm(x, x.make(3, h, s), 3, h, h + s);
            }
        }
        CHECKS.due("many(0)", x.many(0), 48);
    }

    private static void wholeNumbersOf64Bits() {
        CHECKS.sentence("each a whole number of 64 bits");
        long[] ends = {LEAST, LEAST + 1, -(1L << 32), -1, 0, 1, (1L << 32) - 1, 1L << 32, MOST - 1, MOST};
        LevelScores x = new LevelScores();
        x.make(3, 6, 6);
        for (int i = 0; i < ends.length; i++) {
            CHECKS.due("set to " + ends[i], x.set(0, i, ends[i]), 1);
        }
        for (int i = 0; i < ends.length; i++) {
            CHECKS.due("level " + i, Checks.at(x, 0, i), "" + ends[i]);
        }
    }

    private static void likeScores() {
        CHECKS.sentence("LIKE, if their SHAPES are (of BENT with the same h and s)");
        int[][] forms = {{0, 0, 0}, {3, 0, 1}, {3, 1, 0}, {1, 0, 0}, {3, 1, 1}, {3, 2, 0}, {3, 0, 2}, {2, 0, 0}, {3, 1, 2}, {3, 2, 1}, {3, 3, 0}, {3, 0, 3}};
        LevelScores x = new LevelScores();
        for (int[] form : forms) {
            x.make(form[0], form[1], form[2]);
        }
        for (int a = 0; a < forms.length; a++) {
            for (int b = 0; b < forms.length; b++) {
                CHECKS.due("order(" + a + ", " + b + ")", x.order(a, b), a == b ? 2 : LevelScores.CAST);
            }
        }
        LevelScores y = new LevelScores();
        for (int[] form : forms) {
            int a = y.make(form[0], form[1], form[2]);
            CHECKS.due("order of two of one shape", y.order(a, y.make(form[0], form[1], form[2])), 2);
        }
    }

    private static void lessAtTheFirstDifference() {
        CHECKS.sentence("that is less which is less at the first level at which they differ");
        for (int first = 0; first < 12; first++) {
            LevelScores x = new LevelScores();
            int a = x.make(3, 6, 6);
            int b = x.make(3, 6, 6);
            x.set(a, first, LEAST);
            x.set(b, first, MOST);
            for (int level = first + 1; level < 12; level++) {
                x.set(a, level, MOST);
                x.set(b, level, LEAST);
            }
            CHECKS.due("less from level " + first + " on", x.order(a, b), 1);
            CHECKS.due("greater from level " + first + " on", x.order(b, a), 3);
        }
    }

    private static void feasible() {
        CHECKS.sentence("FEASIBLE is one without a hard level below 0");
        int[][] forms = {{0, 0, 0}, {1, 0, 0}, {2, 0, 0}, {3, 6, 6}, {3, 6, 0}, {3, 0, 6}, {3, 2, 1}};
        for (int[] form : forms) {
            LevelScores x = new LevelScores();
            int score = x.make(form[0], form[1], form[2]);
            CHECKS.due("one with 0 at all levels", x.told(score, 3), 1);
            int hard = x.told(score, 1);
            int size = x.told(score, 2);
            for (int level = 0; level < size; level++) {
                x.set(score, level, -1);
                CHECKS.due("one with -1 at level " + level, x.told(score, 3), level < hard ? 0 : 1);
                x.set(score, level, LEAST);
                CHECKS.due("one with the least at level " + level, x.told(score, 3), level < hard ? 0 : 1);
                x.set(score, level, level % 2);
                CHECKS.due("one with 0 or 1 at level " + level, x.told(score, 3), 1);
            }
        }
    }

    // ---- promises 1 to 3

    private static void newObject() {
        CHECKS.sentence("1: No SCORES, no RULES");
        LevelScores x = new LevelScores();
        for (int what = 0; what < 5; what++) {
            CHECKS.due("many(" + what + ")", x.many(what), 0);
        }
        CHECKS.due("at(0, 0)", Checks.at(x, 0, 0), "IndexOutOfBoundsException");
        CHECKS.due("count(0, 0)", x.count(0, 0), LevelScores.UNKNOWN);
        CHECKS.due("total(0)", x.total(0), LevelScores.UNKNOWN);
        CHECKS.due("kept(0)", x.kept(0), LevelScores.UNKNOWN);
        CHECKS.due("out(0)", x.out(0), LevelScores.NONE);
        CHECKS.due("drop()", x.drop(), LevelScores.UNKNOWN);
        CHECKS.due("read()", x.read(), -100);
        CHECKS.due("make(0, 0, 0)", x.make(0, 0, 0), 0);
    }

    private static void dueMake(LevelScores x, int shape, int h, int s, int want) {
        int before = x.many(0);
        CHECKS.due("make(" + shape + ", " + h + ", " + s + ")", x.make(shape, h, s), want);
        CHECKS.due("many(0) after it", x.many(0), want < 0 ? before : before + 1);
    }

    private static void makeShape() {
        CHECKS.sentence("2: OUTSIDE: the SHAPE (0 .. 3)");
        LevelScores x = new LevelScores();
        dueMake(x, -1, 1, 1, LevelScores.OUTSIDE);
        dueMake(x, LEAST_INT, 1, 1, LevelScores.OUTSIDE);
        dueMake(x, 4, 1, 1, LevelScores.OUTSIDE);
        dueMake(x, MOST_INT, 1, 1, LevelScores.OUTSIDE);
        dueMake(x, 4, -1, -1, LevelScores.OUTSIDE);
        dueMake(x, 0, 1, 1, 0);
        dueMake(x, 3, 1, 1, 1);
    }

    private static void makeAboveSix() {
        CHECKS.sentence("2: OUTSIDE: h or s above 6");
        LevelScores x = new LevelScores();
        int[][] above = {{7, 0}, {0, 7}, {7, 7}, {7, 6}, {6, 7}, {MOST_INT, 1}, {1, MOST_INT}, {MOST_INT, MOST_INT}, {7, -1}, {-1, 7}, {LEAST_INT, MOST_INT}};
        for (int[] sides : above) {
            dueMake(x, 3, sides[0], sides[1], LevelScores.OUTSIDE);
        }
        dueMake(x, 3, 6, 6, 0);
        dueMake(x, 3, 6, 0, 1);
        dueMake(x, 3, 0, 6, 2);
    }

    private static void makeBothZero() {
        CHECKS.sentence("2: OUTSIDE: both 0");
        LevelScores x = new LevelScores();
        dueMake(x, 3, 0, 0, LevelScores.OUTSIDE);
        dueMake(x, 3, 1, 0, 0);
        dueMake(x, 3, 0, 1, 1);
    }

    private static void makeBelowZero() {
        CHECKS.sentence("2: SIZE: one is below 0");
        LevelScores x = new LevelScores();
        int[][] below = {{-1, 0}, {0, -1}, {-1, 1}, {1, -1}, {-1, 6}, {6, -1}, {-1, -1}, {LEAST_INT, 0}, {6, LEAST_INT}, {LEAST_INT, LEAST_INT}};
        for (int[] sides : below) {
            dueMake(x, 3, sides[0], sides[1], LevelScores.SIZE);
        }
    }

    private static void makeLooksAtBentAlone() {
        CHECKS.sentence("2: h and s are looked at for BENT alone");
        int[][] sides = {{0, 0}, {7, 7}, {-1, -1}, {LEAST_INT, MOST_INT}, {MOST_INT, LEAST_INT}};
        LevelScores x = new LevelScores();
        for (int shape = 0; shape < 3; shape++) {
            for (int[] pair : sides) {
                dueMake(x, shape, pair[0], pair[1], x.many(0));
                dueForm(x, x.many(0) - 1, shape, Math.min(shape, 1), shape + 1);
            }
        }
    }

    private static void makeZeroAtAllLevels() {
        CHECKS.sentence("2: A SCORE with 0 at all levels");
        LevelScores x = new LevelScores();
        Checks.bent(x, 6, 1, 2, 3, 4, 5, 6, 7, 8, 9, 10, 11, 12);
        x.drop();
        CHECKS.due("SIMPLE in a place used before", Checks.levelsDropped(x, x.make(0, 0, 0)), "0");
        CHECKS.due("TWO in a place used before", Checks.levelsDropped(x, x.make(1, 0, 0)), "0 0");
        CHECKS.due("THREE in a place used before", Checks.levelsDropped(x, x.make(2, 0, 0)), "0 0 0");
        CHECKS.due("BENT in a place used before", Checks.levelsDropped(x, x.make(3, 6, 6)), "0 0 0 0 0 0 0 0 0 0 0 0");
    }

    private static void nothingIsANumber() {
        CHECKS.sentence("3: A number that has NOTHING");
        LevelScores x = new LevelScores();
        Checks.two(x, 1, 2);
        CHECKS.due("nothing()", x.nothing(), 1);
        CHECKS.due("many(0)", x.many(0), 2);
        CHECKS.due("told(1, 2)", x.told(1, 2), LevelScores.NULL);
        CHECKS.due("at(1, 0)", Checks.at(x, 1, 0), "NoSuchElementException");
        CHECKS.due("nothing() again", x.nothing(), 2);
        CHECKS.due("drop()", x.drop(), 2);
        x.drop();
        x.make(0, 0, 0);
        x.drop();
        CHECKS.due("nothing() where a SCORE was", x.nothing(), 1);
        CHECKS.due("set(1, 0, 5)", x.set(1, 0, 5), LevelScores.NULL);
        CHECKS.due("levels of the first", Checks.levels(x, 0), "1 2");
    }

    // ---- promises 4 to 6

    private static void setLevelAlone() {
        CHECKS.sentence("4: A level becomes v");
        LevelScores x = new LevelScores();
        int a = Checks.three(x, 1, 2, 3);
        int b = Checks.three(x, 4, 5, 6);
        CHECKS.due("set of the first level", x.set(a, 0, LEAST), 1);
        CHECKS.due("levels", Checks.levels(x, a), LEAST + " 2 3");
        CHECKS.due("set of the last level", x.set(a, 2, MOST), 1);
        CHECKS.due("levels", Checks.levels(x, a), LEAST + " 2 " + MOST);
        CHECKS.due("set to what it is", x.set(a, 1, 2), 1);
        CHECKS.due("levels", Checks.levels(x, a), LEAST + " 2 " + MOST);
        CHECKS.due("levels of the other one", Checks.levels(x, b), "4 5 6");
    }

    private static void setUnknown() {
        CHECKS.sentence("4: UNKNOWN");
        LevelScores x = new LevelScores();
        CHECKS.due("set of the first of none", x.set(0, 0, 1), LevelScores.UNKNOWN);
        Checks.simple(x, 5);
        int[] numbers = {-1, 1, 59, 60, LEAST_INT, MOST_INT};
        for (int number : numbers) {
            CHECKS.due("set(" + number + ", 0, 1)", x.set(number, 0, 1), LevelScores.UNKNOWN);
            CHECKS.due("set(" + number + ", -1, 1)", x.set(number, -1, 1), LevelScores.UNKNOWN);
        }
        CHECKS.due("the level", Checks.levels(x, 0), "5");
        x.drop();
        CHECKS.due("set of one dropped", x.set(0, 0, 1), LevelScores.UNKNOWN);
    }

    private static void setNull() {
        CHECKS.sentence("4: NULL (ahead of INDEX)");
        LevelScores x = new LevelScores();
        x.nothing();
        int[] levels = {0, -1, 1, 12, LEAST_INT, MOST_INT};
        for (int level : levels) {
            CHECKS.due("set(0, " + level + ", 1)", x.set(0, level, 1), LevelScores.NULL);
        }
    }

    private static void setIndex() {
        CHECKS.sentence("4: INDEX: no such level");
        LevelScores x = new LevelScores();
        int[] made = {x.make(0, 0, 0), x.make(1, 0, 0), x.make(2, 0, 0), x.make(3, 6, 6), x.make(3, 0, 1), x.make(3, 1, 0)};
        int[] sizes = {1, 2, 3, 12, 1, 1};
        for (int i = 0; i < made.length; i++) {
            int[] levels = {-1, sizes[i], sizes[i] + 1, LEAST_INT, MOST_INT};
            for (int level : levels) {
                CHECKS.due("set(" + made[i] + ", " + level + ", 1)", x.set(made[i], level, 1), LevelScores.INDEX);
            }
            CHECKS.due("levels of " + made[i], Checks.levels(x, made[i]).replace("0", "").trim(), "");
            CHECKS.due("set of its last level", x.set(made[i], sizes[i] - 1, 1), 1);
        }
    }

    private static void atNoSuchScore() {
        CHECKS.sentence("5: IndexOutOfBoundsException: there is no such SCORE");
        LevelScores x = new LevelScores();
        CHECKS.due("at(0, 0) of none", Checks.at(x, 0, 0), "IndexOutOfBoundsException");
        Checks.simple(x, 5);
        x.nothing();
        int[] numbers = {-1, 2, 59, 60, LEAST_INT, MOST_INT};
        for (int number : numbers) {
            CHECKS.due("at(" + number + ", 0)", Checks.at(x, number, 0), "IndexOutOfBoundsException");
        }
        x.drop();
        CHECKS.due("at of one with NOTHING, dropped", Checks.at(x, 1, 0), "IndexOutOfBoundsException");
    }

    private static void atNothing() {
        CHECKS.sentence("5: NoSuchElementException: it has NOTHING (ahead of its levels)");
        LevelScores x = new LevelScores();
        x.nothing();
        int[] levels = {0, -1, 1, 12, LEAST_INT, MOST_INT};
        for (int level : levels) {
            CHECKS.due("at(0, " + level + ")", Checks.at(x, 0, level), "NoSuchElementException");
        }
    }

    private static void atNoSuchLevel() {
        CHECKS.sentence("5: IndexOutOfBoundsException: no such level");
        LevelScores x = new LevelScores();
        int[] made = {Checks.simple(x, 8), Checks.two(x, 7, 8), Checks.three(x, 6, 7, 8), Checks.bent(x, 6, 0, 0, 0, 0, 0, 0, 0, 0, 0, 0, 0, 8), Checks.bent(x, 0, 8)};
        int[] sizes = {1, 2, 3, 12, 1};
        for (int i = 0; i < made.length; i++) {
            int[] levels = {-1, sizes[i], sizes[i] + 1, LEAST_INT, MOST_INT};
            for (int level : levels) {
                CHECKS.due("at(" + made[i] + ", " + level + ")", Checks.at(x, made[i], level), "IndexOutOfBoundsException");
            }
            CHECKS.due("the last level of " + made[i], Checks.at(x, made[i], sizes[i] - 1), "8");
        }
    }

    private static void toldUnknown() {
        CHECKS.sentence("6: UNKNOWN (ahead of OUTSIDE)");
        LevelScores x = new LevelScores();
        CHECKS.due("told(0, 0) of none", x.told(0, 0), LevelScores.UNKNOWN);
        x.make(0, 0, 0);
        int[] numbers = {-1, 1, 59, 60, LEAST_INT, MOST_INT};
        for (int number : numbers) {
            CHECKS.due("told(" + number + ", 0)", x.told(number, 0), LevelScores.UNKNOWN);
            CHECKS.due("told(" + number + ", 4)", x.told(number, 4), LevelScores.UNKNOWN);
        }
    }

    private static void toldOutside() {
        CHECKS.sentence("6: OUTSIDE (ahead of NULL)");
        LevelScores x = new LevelScores();
        x.make(0, 0, 0);
        x.nothing();
        int[] whats = {-1, 4, LEAST_INT, MOST_INT};
        for (int what : whats) {
            CHECKS.due("told(0, " + what + ")", x.told(0, what), LevelScores.OUTSIDE);
            CHECKS.due("told(1, " + what + ")", x.told(1, what), LevelScores.OUTSIDE);
        }
    }

    private static void toldNull() {
        CHECKS.sentence("6: NULL");
        LevelScores x = new LevelScores();
        x.nothing();
        for (int what = 0; what < 4; what++) {
            CHECKS.due("told(0, " + what + ")", x.told(0, what), LevelScores.NULL);
        }
    }

    // ---- promise 7

    private static void actUnknown() {
        CHECKS.sentence("7: UNKNOWN (ahead of OUTSIDE and NULL)");
        LevelScores x = new LevelScores();
        x.make(0, 0, 0);
        x.nothing();
        int[] numbers = {-1, 2, 59, 60, LEAST_INT, MOST_INT};
        int[] acts = {0, 5, -1, 6};
        for (int number : numbers) {
            for (int act : acts) {
                CHECKS.due("act(" + act + ", 0, " + number + ")", x.act(act, 0, number), LevelScores.UNKNOWN);
                CHECKS.due("act(" + act + ", " + number + ", 0)", x.act(act, number, 0), LevelScores.UNKNOWN);
                CHECKS.due("act(" + act + ", 1, " + number + ")", x.act(act, 1, number), LevelScores.UNKNOWN);
            }
        }
        CHECKS.due("many(0)", x.many(0), 2);
    }

    private static void actOutside() {
        CHECKS.sentence("7: OUTSIDE (ahead of NULL and CAST)");
        LevelScores x = new LevelScores();
        x.make(0, 0, 0);
        x.nothing();
        x.make(1, 0, 0);
        int[] acts = {-1, 6, LEAST_INT, MOST_INT};
        for (int act : acts) {
            CHECKS.due("act(" + act + ", 0, 0)", x.act(act, 0, 0), LevelScores.OUTSIDE);
            CHECKS.due("act(" + act + ", 1, 0)", x.act(act, 1, 0), LevelScores.OUTSIDE);
            CHECKS.due("act(" + act + ", 0, 2)", x.act(act, 0, 2), LevelScores.OUTSIDE);
        }
        CHECKS.due("many(0)", x.many(0), 3);
        CHECKS.due("act(0, 0, 0)", x.act(0, 0, 0), 3);
        CHECKS.due("act(5, 0, 0)", x.act(5, 0, 0), 4);
    }

    private static void actNull() {
        CHECKS.sentence("7: NULL: NOTHING where a SCORE is wanted (ahead of CAST)");
        LevelScores x = new LevelScores();
        x.make(0, 0, 0);
        x.nothing();
        x.make(1, 0, 0);
        for (int act = 0; act < 6; act++) {
            CHECKS.due("act(" + act + ", 0, 1)", x.act(act, 0, 1), LevelScores.NULL);
            CHECKS.due("act(" + act + ", 1, 2)", x.act(act, 1, 2), LevelScores.NULL);
            CHECKS.due("act(" + act + ", 1, 1)", x.act(act, 1, 1), LevelScores.NULL);
        }
        CHECKS.due("many(0)", x.many(0), 3);
    }

    private static void actCast() {
        CHECKS.sentence("7: CAST: SCORES that are not LIKE (ahead of WRAP)");
        LevelScores x = new LevelScores();
        int[] made = {Checks.simple(x, MOST), Checks.bent(x, 0, MOST), Checks.bent(x, 1, MOST), Checks.two(x, MOST, MOST), Checks.bent(x, 1, MOST, MOST), Checks.bent(x, 2, MOST, MOST)};
        for (int act = 0; act < 6; act++) {
            for (int b = 1; b < made.length; b++) {
                CHECKS.due("act(" + act + ", " + made[b - 1] + ", " + made[b] + ")", x.act(act, made[b - 1], made[b]), LevelScores.CAST);
                CHECKS.due("act(" + act + ", " + made[b] + ", " + made[b - 1] + ")", x.act(act, made[b], made[b - 1]), LevelScores.CAST);
            }
        }
        CHECKS.due("many(0)", x.many(0), made.length);
    }

    /** The level of an act on two SIMPLE ones. */
    private static String acted(int act, long a, long b) {
        LevelScores x = new LevelScores();
        int first = Checks.simple(x, a);
        int second = Checks.simple(x, b);
        int answer = x.act(act, first, second);
        return answer == LevelScores.WRAP && x.many(0) == 2 ? "WRAP" : Checks.levels(x, answer);
    }

    private static void actSumAtTheEnds() {
        CHECKS.sentence("7: act = 0 their sum; WRAP: a level would not be a number of 64 bits");
        CHECKS.due("most + 0", acted(0, MOST, 0), "" + MOST);
        CHECKS.due("most - 1 + 1", acted(0, MOST - 1, 1), "" + MOST);
        CHECKS.due("most + 1", acted(0, MOST, 1), "WRAP");
        CHECKS.due("1 + most", acted(0, 1, MOST), "WRAP");
        CHECKS.due("most + most", acted(0, MOST, MOST), "WRAP");
        CHECKS.due("2^62 + 2^62", acted(0, 1L << 62, 1L << 62), "WRAP");
        CHECKS.due("2^62 + 2^62 - 1", acted(0, 1L << 62, (1L << 62) - 1), "" + MOST);
        CHECKS.due("least + 0", acted(0, LEAST, 0), "" + LEAST);
        CHECKS.due("least + 1 + -1", acted(0, LEAST + 1, -1), "" + LEAST);
        CHECKS.due("least + -1", acted(0, LEAST, -1), "WRAP");
        CHECKS.due("-1 + least", acted(0, -1, LEAST), "WRAP");
        CHECKS.due("least + least", acted(0, LEAST, LEAST), "WRAP");
        CHECKS.due("-2^62 + -2^62", acted(0, -(1L << 62), -(1L << 62)), "" + LEAST);
        CHECKS.due("least + most", acted(0, LEAST, MOST), "-1");
    }

    private static void actDifferenceAtTheEnds() {
        CHECKS.sentence("7: act = 1 the first less the second; WRAP: a level would not be a number of 64 bits");
        CHECKS.due("most - 0", acted(1, MOST, 0), "" + MOST);
        CHECKS.due("most - -1", acted(1, MOST, -1), "WRAP");
        CHECKS.due("most - least", acted(1, MOST, LEAST), "WRAP");
        CHECKS.due("0 - least", acted(1, 0, LEAST), "WRAP");
        CHECKS.due("-1 - least", acted(1, -1, LEAST), "" + MOST);
        CHECKS.due("0 - most", acted(1, 0, MOST), "" + (LEAST + 1));
        CHECKS.due("-1 - most", acted(1, -1, MOST), "" + LEAST);
        CHECKS.due("-2 - most", acted(1, -2, MOST), "WRAP");
        CHECKS.due("least - 0", acted(1, LEAST, 0), "" + LEAST);
        CHECKS.due("least - 1", acted(1, LEAST, 1), "WRAP");
        CHECKS.due("least - most", acted(1, LEAST, MOST), "WRAP");
        CHECKS.due("least - least", acted(1, LEAST, LEAST), "0");
        CHECKS.due("most - most", acted(1, MOST, MOST), "0");
    }

    private static void actWrapsAtAnyLevel() {
        CHECKS.sentence("7: WRAP, whichever level it is");
        for (int level = 0; level < 12; level++) {
            LevelScores x = new LevelScores();
            int ends = x.make(3, 6, 6);
            int ones = x.make(3, 6, 6);
            x.set(ends, level, LEAST);
            x.set(ones, level, 1);
            CHECKS.due("difference that wraps at level " + level, x.act(1, ends, ones), LevelScores.WRAP);
            x.set(ends, level, MOST);
            CHECKS.due("sum that wraps at level " + level, x.act(0, ends, ones), LevelScores.WRAP);
            CHECKS.due("many(0) after it", x.many(0), 2);
            CHECKS.due("a score made after it", Checks.levels(x, x.make(3, 6, 6)), "0 0 0 0 0 0 0 0 0 0 0 0");
        }
    }

    private static void actOthersNeverWrap() {
        CHECKS.sentence("7: act = 2 the greater one, 3 the lesser one, 4 level by level the greater number, 5 the lesser one");
        LevelScores x = new LevelScores();
        int a = Checks.three(x, MOST, LEAST, 0);
        int b = Checks.three(x, LEAST, MOST, -1);
        String[] due = {"WRAP", "WRAP", MOST + " " + LEAST + " 0", LEAST + " " + MOST + " -1", MOST + " " + MOST + " 0", LEAST + " " + LEAST + " -1"};
        for (int act = 2; act < 6; act++) {
            CHECKS.due("act(" + act + ", a, b)", Checks.levels(x, x.act(act, a, b)), due[act]);
            CHECKS.due("act(" + act + ", b, a)", Checks.levels(x, x.act(act, b, a)), due[act]);
        }
    }

    private static void actOfTheSame() {
        CHECKS.sentence("7: A SCORE of two LIKE ones: its number");
        LevelScores x = new LevelScores();
        int a = Checks.two(x, 3, -4);
        String[] due = {"6 -8", "0 0", "3 -4", "3 -4", "3 -4", "3 -4"};
        for (int act = 0; act < 6; act++) {
            CHECKS.due("act(" + act + ", a, a)", x.act(act, a, a), 1 + act);
        }
        x.set(a, 0, 100);
        for (int act = 0; act < 6; act++) {
            CHECKS.due("levels of act " + act + " after a change of a", Checks.levels(x, 1 + act), due[act]);
        }
    }

    // ---- promises 8 and 9

    private static void timesUnknown() {
        CHECKS.sentence("8: UNKNOWN (ahead of DIVIDE)");
        LevelScores x = new LevelScores();
        CHECKS.due("times(0, 1, 1) of none", x.times(0, 1, 1), LevelScores.UNKNOWN);
        x.make(0, 0, 0);
        int[] numbers = {-1, 1, 59, 60, LEAST_INT, MOST_INT};
        for (int number : numbers) {
            CHECKS.due("times(" + number + ", 1, 1)", x.times(number, 1, 1), LevelScores.UNKNOWN);
            CHECKS.due("times(" + number + ", 1, 0)", x.times(number, 1, 0), LevelScores.UNKNOWN);
        }
        CHECKS.due("many(0)", x.many(0), 1);
    }

    private static void timesNull() {
        CHECKS.sentence("8: NULL (ahead of DIVIDE)");
        LevelScores x = new LevelScores();
        x.nothing();
        CHECKS.due("times(0, 1, 1)", x.times(0, 1, 1), LevelScores.NULL);
        CHECKS.due("times(0, 1, 0)", x.times(0, 1, 0), LevelScores.NULL);
        CHECKS.due("many(0)", x.many(0), 1);
    }

    private static void timesDivide() {
        CHECKS.sentence("8: DIVIDE: down is 0 (ahead of WRAP)");
        LevelScores x = new LevelScores();
        x.make(3, 6, 6);
        Checks.simple(x, MOST);
        int[] ups = {0, 1, -1, MOST_INT, LEAST_INT};
        for (int up : ups) {
            CHECKS.due("times(0, " + up + ", 0)", x.times(0, up, 0), LevelScores.DIVIDE);
            CHECKS.due("times(1, " + up + ", 0)", x.times(1, up, 0), LevelScores.DIVIDE);
        }
        CHECKS.due("many(0)", x.many(0), 2);
    }

    /** The level of a SIMPLE one's product. */
    private static String product(long v, int up, int down) {
        LevelScores x = new LevelScores();
        int answer = x.times(Checks.simple(x, v), up, down);
        return answer == LevelScores.WRAP && x.many(0) == 1 ? "WRAP" : Checks.levels(x, answer);
    }

    private static void timesRoundsDown() {
        CHECKS.sentence("8: each level times up / down, rounded down");
        CHECKS.due("7 / 2", product(7, 1, 2), "3");
        CHECKS.due("-7 / 2", product(-7, 1, 2), "-4");
        CHECKS.due("7 / -2", product(7, 1, -2), "-4");
        CHECKS.due("-7 / -2", product(-7, 1, -2), "3");
        CHECKS.due("7 * -1 / 2", product(7, -1, 2), "-4");
        CHECKS.due("7 * -1 / -2", product(7, -1, -2), "3");
        CHECKS.due("-7 * -1 / -2", product(-7, -1, -2), "-4");
        CHECKS.due("6 / -2, without a rest", product(6, 1, -2), "-3");
        CHECKS.due("-6 / 2, without a rest", product(-6, 1, 2), "-3");
        CHECKS.due("0 / -2", product(0, 1, -2), "0");
        CHECKS.due("5 * 0 / -3", product(5, 0, -3), "0");
        CHECKS.due("1 / most", product(1, 1, MOST_INT), "0");
        CHECKS.due("-1 / most", product(-1, 1, MOST_INT), "-1");
        CHECKS.due("1 / least", product(1, 1, LEAST_INT), "-1");
        CHECKS.due("-1 / least", product(-1, 1, LEAST_INT), "0");
        CHECKS.due("2^31 / least", product(1L << 31, 1, LEAST_INT), "-1");
        CHECKS.due("2^31 + 1 / least", product((1L << 31) + 1, 1, LEAST_INT), "-2");
    }

    private static void timesExactly() {
        CHECKS.sentence("8: exactly");
        CHECKS.due("most * most / most", product(MOST, MOST_INT, MOST_INT), "" + MOST);
        CHECKS.due("least * most / most", product(LEAST, MOST_INT, MOST_INT), "" + LEAST);
        CHECKS.due("most * least / least", product(MOST, LEAST_INT, LEAST_INT), "" + MOST);
        CHECKS.due("least * least / least", product(LEAST, LEAST_INT, LEAST_INT), "" + LEAST);
        CHECKS.due("most * most / least", product(MOST, MOST_INT, LEAST_INT), "-9223372032559808512");
        CHECKS.due("least * most / least", product(LEAST, MOST_INT, LEAST_INT), "9223372032559808512");
        CHECKS.due("most * 2 / 3", product(MOST, 2, 3), "6148914691236517204");
        CHECKS.due("least * 2 / 3", product(LEAST, 2, 3), "-6148914691236517206");
        CHECKS.due("most / 1", product(MOST, 1, 1), "" + MOST);
        CHECKS.due("most / -1", product(MOST, 1, -1), "" + (LEAST + 1));
        CHECKS.due("least / 1", product(LEAST, 1, 1), "" + LEAST);
        CHECKS.due("least / least", product(LEAST, 1, LEAST_INT), "4294967296");
        CHECKS.due("most / least", product(MOST, 1, LEAST_INT), "-4294967296");
        // Beyond 2^53, where doubles would lose the last digits.
        CHECKS.due("9007199254740993 * 1 / 1", product(9007199254740993L, 1, 1), "9007199254740993");
        CHECKS.due("9007199254740993 * 3 / 3", product(9007199254740993L, 3, 3), "9007199254740993");
        // Rounded first and multiplied then, this would be 3.
        CHECKS.due("3 * 3 / 2", product(3, 3, 2), "4");
    }

    private static void timesWraps() {
        CHECKS.sentence("8: WRAP: a level would not be a number of 64 bits");
        CHECKS.due("least * -1", product(LEAST, -1, 1), "WRAP");
        CHECKS.due("least / -1", product(LEAST, 1, -1), "WRAP");
        CHECKS.due("least * -1 / -1", product(LEAST, -1, -1), "" + LEAST);
        CHECKS.due("2^62 * 2", product(1L << 62, 2, 1), "WRAP");
        CHECKS.due("2^62 * -2", product(1L << 62, -2, 1), "" + LEAST);
        CHECKS.due("2^62 - 1 * 2", product((1L << 62) - 1, 2, 1), "" + (MOST - 1));
        CHECKS.due("2^62 + 1 * -2", product((1L << 62) + 1, -2, 1), "WRAP");
        CHECKS.due("most * most", product(MOST, MOST_INT, 1), "WRAP");
        CHECKS.due("least * least", product(LEAST, LEAST_INT, 1), "WRAP");
        CHECKS.due("least * least / most", product(LEAST, LEAST_INT, MOST_INT), "WRAP");
        CHECKS.due("most * least / most", product(MOST, LEAST_INT, MOST_INT), "WRAP");
        CHECKS.due("least * most / most - 1", product(LEAST, MOST_INT, MOST_INT - 1), "WRAP");
        // In 64 bits a product of 2^64 would be 0, and one of -2^64 - 2^32 would be -2^32.
        CHECKS.due("2^62 * 4", product(1L << 62, 4, 1), "WRAP");
        CHECKS.due("2^33 + 2 times least", product((1L << 33) + 2, LEAST_INT, 1), "WRAP");
        // Half a number beyond the end is rounded down to the end above, but away from it below.
        CHECKS.due("most and a half", product(6148914691236517205L, 3, 2), "" + MOST);
        CHECKS.due("least and a half above", product(6148914691236517205L, -3, 2), "" + LEAST);
        CHECKS.due("most and one and a half", product(6148914691236517206L, 3, 2), "WRAP");
        CHECKS.due("least less one", product(6148914691236517206L, -3, 2), "WRAP");
        CHECKS.due("least less a third", product(-6917529027641081857L, 4, 3), "WRAP");
        CHECKS.due("least and all but a third", product(-6917529027641081856L, 4, 3), "" + LEAST);
    }

    private static void timesWrapsAtAnyLevel() {
        CHECKS.sentence("8: WRAP, whichever level it is");
        for (int level = 0; level < 12; level++) {
            LevelScores x = new LevelScores();
            x.make(3, 6, 6);
            x.set(0, level, MOST);
            CHECKS.due("times that wraps at level " + level, x.times(0, 2, 1), LevelScores.WRAP);
            CHECKS.due("many(0) after it", x.many(0), 1);
            CHECKS.due("a score made after it", Checks.levels(x, x.make(3, 6, 6)), "0 0 0 0 0 0 0 0 0 0 0 0");
        }
    }

    private static void orderUnknown() {
        CHECKS.sentence("9: UNKNOWN (ahead of NULL)");
        LevelScores x = new LevelScores();
        CHECKS.due("order(0, 0) of none", x.order(0, 0), LevelScores.UNKNOWN);
        x.make(0, 0, 0);
        x.nothing();
        int[] numbers = {-1, 2, 59, 60, LEAST_INT, MOST_INT};
        for (int number : numbers) {
            CHECKS.due("order(0, " + number + ")", x.order(0, number), LevelScores.UNKNOWN);
            CHECKS.due("order(" + number + ", 0)", x.order(number, 0), LevelScores.UNKNOWN);
            CHECKS.due("order(1, " + number + ")", x.order(1, number), LevelScores.UNKNOWN);
            CHECKS.due("order(" + number + ", 1)", x.order(number, 1), LevelScores.UNKNOWN);
        }
    }

    private static void orderNull() {
        CHECKS.sentence("9: NULL");
        LevelScores x = new LevelScores();
        x.make(0, 0, 0);
        x.nothing();
        x.nothing();
        CHECKS.due("order(0, 1)", x.order(0, 1), LevelScores.NULL);
        CHECKS.due("order(1, 0)", x.order(1, 0), LevelScores.NULL);
        CHECKS.due("order(1, 1)", x.order(1, 1), LevelScores.NULL);
        CHECKS.due("order(1, 2)", x.order(1, 2), LevelScores.NULL);
    }

    private static void orderCast() {
        CHECKS.sentence("9: CAST");
        LevelScores x = new LevelScores();
        int two = Checks.two(x, 1, 2);
        int bent = Checks.bent(x, 1, 1, 2);
        int three = Checks.three(x, 0, 0, 0);
        CHECKS.due("order of TWO and BENT", x.order(two, bent), LevelScores.CAST);
        CHECKS.due("order of BENT and TWO", x.order(bent, two), LevelScores.CAST);
        CHECKS.due("order of TWO and THREE", x.order(two, three), LevelScores.CAST);
        CHECKS.due("order of THREE and TWO", x.order(three, two), LevelScores.CAST);
    }

    private static void theWidest() {
        CHECKS.sentence("7, 8: each level, of twelve");
        LevelScores x = new LevelScores();
        int a = Checks.bent(x, 6, 1, 2, 3, 4, 5, 6, 7, 8, 9, 10, 11, 12);
        int b = Checks.bent(x, 6, 12, 11, 10, 9, 8, 7, 6, 5, 4, 3, 2, 1);
        CHECKS.due("sum", Checks.levels(x, x.act(0, a, b)), "13 13 13 13 13 13 13 13 13 13 13 13");
        CHECKS.due("difference", Checks.levels(x, x.act(1, a, b)), "-11 -9 -7 -5 -3 -1 1 3 5 7 9 11");
        CHECKS.due("the greater one", Checks.levels(x, x.act(2, a, b)), "12 11 10 9 8 7 6 5 4 3 2 1");
        CHECKS.due("the lesser one", Checks.levels(x, x.act(3, a, b)), "1 2 3 4 5 6 7 8 9 10 11 12");
        CHECKS.due("the greater numbers", Checks.levels(x, x.act(4, a, b)), "12 11 10 9 8 7 7 8 9 10 11 12");
        CHECKS.due("the lesser numbers", Checks.levels(x, x.act(5, a, b)), "1 2 3 4 5 6 6 5 4 3 2 1");
        CHECKS.due("product", Checks.levels(x, x.times(a, -3, 2)), "-2 -3 -5 -6 -8 -9 -11 -12 -14 -15 -17 -18");
    }

    private static void everyMakerWhenFull() {
        CHECKS.sentence("2, 3, 7, 8, 11, 18, 21: FULL; the last number that is free is given");
        for (int maker = 0; maker < 8; maker++) {
            LevelScores x = new LevelScores();
            int a = Checks.simple(x, 1);
            x.rule(a);
            x.keep(a);
            Checks.fill(x);
            CHECKS.due("maker " + maker + " with 60 numbers", made(x, maker), LevelScores.FULL);
            CHECKS.due("many(0) after it", x.many(0), 60);
            x.drop();
            CHECKS.due("maker " + maker + " with 59 numbers", made(x, maker), 59);
            CHECKS.due("many(0) after it", x.many(0), 60);
            CHECKS.due("maker " + maker + " with 60 numbers again", made(x, maker), LevelScores.FULL);
        }
    }

    private static void everyMakerInAPlaceUsedBefore() {
        CHECKS.sentence("2, 3, 7, 8, 11, 18, 21, 23: of a number that went nothing is left");
        String[] due = {"0 0 0 0 0 0 0 0 0 0 0 0", "", "2", "0", "1 2", "3", "3", "1"};
        for (int maker = 0; maker < 8; maker++) {
            LevelScores x = new LevelScores();
            for (int i = 0; i < 2; i++) {
                Checks.bent(x, 6, MOST, MOST, MOST, MOST, MOST, MOST, MOST, MOST, MOST, MOST, MOST, MOST);
            }
            x.drop();
            x.drop();
            int a = Checks.simple(x, 1);
            x.rule(a);
            x.count(0, 3);
            x.keep(a);
            CHECKS.due("maker " + maker, made(x, maker), 1);
            CHECKS.due("levels of maker " + maker, Checks.levels(x, 1), due[maker]);
        }
    }

    /** What a call that makes a number answers. */
    private static int made(LevelScores x, int maker) {
        switch (maker) {
            case 0: return x.make(3, 6, 6);
            case 1: return x.nothing();
            case 2: return x.act(0, 0, 0);
            case 3: return x.times(0, 1, 2);
            case 4: return Checks.read(x, "1hard/2soft");
            case 5: return x.total(LevelScores.NONE);
            case 6: return x.total(0);
            default: return x.kept(0);
        }
    }
}
