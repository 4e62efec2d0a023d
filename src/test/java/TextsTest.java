/** Promises 10 to 13: the tape, the texts and OUT. */
public final class TextsTest {
    private static final String MOST = "9223372036854775807", LEAST = "-9223372036854775808";
    private static final Checks CHECKS = new Checks();

    public static void main(String[] args) {
        promise10Put();
        promise11Texts();
        promise11Levels();
        promise11Numbers();
        promise11Words();
        promise11Brackets();
        promise11Shorter();
        promise11Full();
        promise12Print();
        promise12PrintFails();
        promise13Out();
        CHECKS.end();
    }

    private static void promise10Put() {
        LevelScores x = new LevelScores();
        CHECKS.due("put(-1)", x.put(-1), LevelScores.OUTSIDE);
        CHECKS.due("put(128)", x.put(128), LevelScores.OUTSIDE);
        CHECKS.due("many(3) after refusals", x.many(3), 0);
        CHECKS.due("put(0)", x.put(0), 1);
        CHECKS.due("put(127)", x.put(127), 2);
        CHECKS.due("many(3)", x.many(3), 2);
        for (int i = 3; i <= 300; i++) {
            CHECKS.due("put number " + i, x.put('1'), i);
        }
        CHECKS.due("put number 301", x.put('1'), LevelScores.FULL);
        CHECKS.due("put(128) when full", x.put(128), LevelScores.OUTSIDE);
        CHECKS.due("read of a full tape", x.read(), -100);
        CHECKS.due("many(3) after read", x.many(3), 0);
        CHECKS.due("put after read", x.put('1'), 1);
    }

    /** What read answers on a new object. */
    private static void dueRead(String text, int want) {
        LevelScores x = new LevelScores();
        CHECKS.due("read of " + text, Checks.read(x, text), want);
        CHECKS.due("many(3) after read of " + text, x.many(3), 0);
        CHECKS.due("many(0) after read of " + text, x.many(0), want == 0 ? 1 : 0);
    }

    private static void promise11Texts() {
        String[] texts = {"0", "7", "-15", "-1hard/0soft", "-1hard/0medium/3soft", "[-1/0]hard/[3]soft", "[]hard/[0]soft", "[0]hard/[]soft"};
        for (String text : texts) {
            dueRead(text, 0);
            dueRead(text + "x", -100 - text.length());
            for (int length = 0; length < text.length(); length++) {
                String begun = text.substring(0, length);
                boolean isNumber = begun.matches("-?[0-9]+");
                dueRead(begun, isNumber ? 0 : -100 - length);
                dueRead(begun + '\u007f', -100 - length);
                dueRead(begun + '\0' + text, -100 - length);
            }
        }
    }

    private static void promise11Levels() {
        LevelScores x = new LevelScores();
        CHECKS.due("read of SIMPLE", Checks.read(x, "-15"), 0);
        CHECKS.due("read of TWO", Checks.read(x, "-1hard/" + MOST + "soft"), 1);
        CHECKS.due("read of THREE", Checks.read(x, "1hard/" + LEAST + "medium/3soft"), 2);
        CHECKS.due("read of BENT", Checks.read(x, "[" + LEAST + "/0]hard/[30]soft"), 3);
        CHECKS.due("read of BENT without hard ones", Checks.read(x, "[]hard/[30/" + MOST + "]soft"), 4);
        CHECKS.due("read of BENT without soft ones", Checks.read(x, "[4]hard/[]soft"), 5);
        String[] levels = {"-15", "-1 " + MOST, "1 " + LEAST + " 3", LEAST + " 0 30", "30 " + MOST, "4"};
        int[] hard = {0, 1, 1, 2, 0, 1};
        for (int i = 0; i < levels.length; i++) {
            CHECKS.due("levels of text " + i, Checks.levels(x, i), levels[i]);
            CHECKS.due("shape of text " + i, x.told(i, 0), Math.min(i, 3));
            CHECKS.due("hard levels of text " + i, x.told(i, 1), hard[i]);
        }
    }

    private static void promise11Numbers() {
        dueRead("", -100);
        dueRead("-", -101);
        dueRead("--1", -101);
        dueRead("+1", -100);
        dueRead(" 1", -100);
        dueRead("1 ", -101);
        dueRead("-0", -101);
        dueRead("00", -101);
        dueRead("01", -101);
        dueRead("1-", -101);
        dueRead("-01", -101);
        dueRead("1hard/-0soft", -107);
        dueRead("1hard/00soft", -107);
        dueRead("[-0]hard/[1]soft", -102);
        dueRead("1hard/2medium/03soft", -115);
        dueRead(MOST, 0);
        dueRead(LEAST, 0);
        dueRead("9223372036854775808", -118);
        dueRead("-9223372036854775809", -119);
        dueRead("9223372036854775810", -118);
        dueRead("9999999999999999999", -118);
        dueRead("10000000000000000000", -119);
        dueRead("-10000000000000000000", -120);
        dueRead("999999999999999999", 0);
        dueRead("1hard/9223372036854775808soft", -124);
        dueRead("[1]hard/[-9223372036854775809]soft", -128);
    }

    private static void promise11Words() {
        dueRead("1soft", -101);
        dueRead("1medium/1soft", -101);
        dueRead("1hard", -105);
        dueRead("1hard1soft", -105);
        dueRead("1hard/soft", -106);
        dueRead("1hard/1", -107);
        dueRead("1hard/1hard", -107);
        dueRead("1hard/1medium", -113);
        dueRead("1hard/1mediumsoft", -113);
        dueRead("1hard/1medium/", -114);
        dueRead("1hard/1medium/1hard", -115);
        dueRead("1hard/1medium/1medium", -115);
        dueRead("1hard/1medium/1sof", -118);
        dueRead("1HARD/1soft", -101);
        dueRead("1hard /1soft", -105);
        dueRead("1hard/ 1soft", -106);
        dueRead("1hard/1soft/", -111);
        dueRead("1hard/[1]soft", -106);
        dueRead("hard/1soft", -100);
        dueRead("/", -100);
    }

    private static void promise11Brackets() {
        dueRead("[", -101);
        dueRead("]", -100);
        dueRead("[[", -101);
        dueRead("[/", -101);
        dueRead("[1", -102);
        dueRead("[1/", -103);
        dueRead("[1/]", -103);
        dueRead("[1//1]", -103);
        dueRead("[1]soft", -103);
        dueRead("[1]hard/1soft", -108);
        dueRead("[]hard/[]soft", -108);
        dueRead("[]hard/[", -108);
        dueRead("[]hard/[/", -108);
        dueRead("[1]hard/[]hard", -110);
        dueRead("[1]hard/[1]medium", -111);
        dueRead("[1]hard/[1/]soft", -111);
        dueRead("[1/2/3/4/5/6]hard/[1/2/3/4/5/6]soft", 0);
        dueRead("[1/2/3/4/5/6/7]hard/[]soft", -112);
        dueRead("[]hard/[1/2/3/4/5/6/7]soft", -119);
        dueRead("[1/2/3/4/5/6", -112);
        String six = LEAST + "/" + LEAST + "/" + LEAST + "/" + LEAST + "/" + LEAST + "/" + LEAST;
        dueRead("[" + six + "]hard/[" + six + "]soft", 0);
    }

    /** What stood on the tape before does not count. */
    private static void promise11Shorter() {
        LevelScores x = new LevelScores();
        Checks.read(x, "123");
        CHECKS.due("read of a shorter number", Checks.read(x, "12"), 1);
        CHECKS.due("its level", Checks.levels(x, 1), "12");
        Checks.read(x, "1hard/2soft");
        CHECKS.due("read of a text begun", Checks.read(x, "1hard/2"), -107);
        CHECKS.due("read of another text begun", Checks.read(x, "1hard/"), -106);
        Checks.read(x, "[1/2]hard/[3]soft");
        CHECKS.due("read of a bracket begun", Checks.read(x, "[1"), -102);
        CHECKS.due("read of an empty tape", x.read(), -100);
    }

    private static void promise11Full() {
        LevelScores x = new LevelScores();
        Checks.fill(x);
        CHECKS.due("read of a text when full", Checks.read(x, "1"), LevelScores.FULL);
        CHECKS.due("many(3) after it", x.many(3), 0);
        CHECKS.due("read of no text when full", Checks.read(x, "x"), LevelScores.FULL);
        CHECKS.due("many(3) after it", x.many(3), 0);
        CHECKS.due("read of an empty tape when full", x.read(), LevelScores.FULL);
        x.drop();
        CHECKS.due("read when there is room again", Checks.read(x, "5"), 59);
        CHECKS.due("its level", Checks.levels(x, 59), "5");
    }

    private static void duePrint(LevelScores x, int score, String want) {
        CHECKS.due("print of " + want, x.print(score), want.length());
        CHECKS.due("many(4) after print of " + want, x.many(4), want.length());
        CHECKS.due("OUT after print of " + want, Checks.out(x), want);
    }

    private static void promise12Print() {
        LevelScores x = new LevelScores();
        long most = Long.MAX_VALUE;
        long least = Long.MIN_VALUE;
        duePrint(x, Checks.bent(x, 6, least, least, least, least, least, least, least, least, least, least, least, least),
            "[" + (LEAST + "/").repeat(5) + LEAST + "]hard/[" + (LEAST + "/").repeat(5) + LEAST + "]soft");
        duePrint(x, Checks.simple(x, 0), "0");
        duePrint(x, Checks.simple(x, -10), "-10");
        duePrint(x, Checks.simple(x, 1000000000000000000L), "1000000000000000000");
        duePrint(x, Checks.simple(x, most), MOST);
        duePrint(x, Checks.simple(x, least), LEAST);
        duePrint(x, Checks.two(x, -1, 0), "-1hard/0soft");
        duePrint(x, Checks.three(x, -1, 0, 3), "-1hard/0medium/3soft");
        duePrint(x, Checks.bent(x, 2, -1, 0, 3), "[-1/0]hard/[3]soft");
        duePrint(x, Checks.bent(x, 0, 5, 60), "[]hard/[5/60]soft");
        duePrint(x, Checks.bent(x, 1, -7), "[-7]hard/[]soft");
    }

    private static void promise12PrintFails() {
        LevelScores x = new LevelScores();
        CHECKS.due("print of no score", x.print(0), LevelScores.UNKNOWN);
        Checks.simple(x, 42);
        x.nothing();
        x.print(0);
        CHECKS.due("print(-1)", x.print(-1), LevelScores.UNKNOWN);
        CHECKS.due("print(2)", x.print(2), LevelScores.UNKNOWN);
        CHECKS.due("print of NOTHING", x.print(1), LevelScores.NULL);
        CHECKS.due("OUT after refusals", Checks.out(x), "42");
        x.set(0, 0, 43);
        CHECKS.due("OUT after a change of the score", Checks.out(x), "42");
        Checks.fill(x);
        CHECKS.due("print when full", x.print(0), 2);
    }

    private static void promise13Out() {
        LevelScores x = new LevelScores();
        CHECKS.due("out(0) of a new object", x.out(0), LevelScores.NONE);
        x.print(Checks.simple(x, -12));
        CHECKS.due("out(0)", x.out(0), '-');
        CHECKS.due("out(1)", x.out(1), '1');
        CHECKS.due("out(2)", x.out(2), '2');
        CHECKS.due("out(3)", x.out(3), LevelScores.NONE);
        CHECKS.due("out(-1)", x.out(-1), LevelScores.NONE);
        CHECKS.due("out(most)", x.out(Integer.MAX_VALUE), LevelScores.NONE);
        x.print(Checks.simple(x, 3));
        CHECKS.due("out(0) of a shorter text", x.out(0), '3');
        CHECKS.due("out(1) of a shorter text", x.out(1), LevelScores.NONE);
    }
}
