/** The boundary cases of part 2 of the terms and of promises 10 to 13: a test for each sentence that names one. */
public final class TextEdgesTest {
    private static final String MOST = "9223372036854775807", LEAST = "-9223372036854775808";
    private static final String DIGITS = "0123456789", NUMBER_BEGINS = "-0123456789", BEHIND_MINUS = "123456789";
    /** The longest of all texts: 263 bytes. */
    private static final String LONGEST = "[" + (LEAST + "/").repeat(5) + LEAST + "]hard/[" + (LEAST + "/").repeat(5) + LEAST + "]soft";
    private static final Checks CHECKS = new Checks();

    public static void main(String[] args) {
        numbersWithoutNeedlessSigns();
        wordsOfShapes();
        emptyBrackets();
        putOutside();
        putFull();
        readEmpties();
        readEmptyTape();
        readNumberBytes();
        readNumberOf64Bits();
        readWordBytes();
        readBracketBytes();
        readSixAtMost();
        readOneInBoth();
        readBeginsOnly();
        readBehindText();
        readLongest();
        readTheWholeTape();
        readFull();
        printUnknown();
        printNull();
        printLongest();
        printReplaces();
        outNone();
        CHECKS.end();
    }

    // ---- part 2 of the terms

    private static void duePrint(LevelScores x, int score, String want) {
        CHECKS.due("print of " + want, x.print(score), want.length());
        CHECKS.due("OUT after it", Checks.out(x), want);
    }

    private static void numbersWithoutNeedlessSigns() {
        CHECKS.sentence("A NUMBER is written without needless 0s and signs (0, 7, -15)");
        long[] numbers = {0, 7, -15, 1, -1, 9, -9, 10, -10, 100, -100, 101, -101, 1000000000000000000L, -1000000000000000000L, 999999999999999999L, Long.MAX_VALUE, Long.MIN_VALUE};
        for (long v : numbers) {
            LevelScores x = new LevelScores();
            duePrint(x, Checks.simple(x, v), Long.toString(v));
            CHECKS.due("read of " + v, Checks.read(x, Long.toString(v)), 1);
            CHECKS.due("its level", Checks.levels(x, 1), Long.toString(v));
        }
        String[] needless = {"00", "01", "-0", "-00", "-01", "+1", "+0", "--1"};
        int[] places = {1, 1, 1, 1, 1, 0, 0, 1};
        for (int i = 0; i < needless.length; i++) {
            CHECKS.due("read of " + needless[i], Checks.read(new LevelScores(), needless[i]), -100 - places[i]);
        }
    }

    private static void dueBothWays(String text, int shape, int hard, String levels) {
        LevelScores x = new LevelScores();
        CHECKS.due("read of " + text, Checks.read(x, text), 0);
        CHECKS.due("its shape", x.told(0, 0), shape);
        CHECKS.due("its hard levels", x.told(0, 1), hard);
        CHECKS.due("its levels", Checks.levels(x, 0), levels);
        duePrint(x, 0, text);
    }

    private static void wordsOfShapes() {
        CHECKS.sentence("SIMPLE: its NUMBER. TWO: -1hard/0soft. THREE: -1hard/0medium/3soft. BENT: [-1/0]hard/[3]soft");
        dueBothWays("-15", 0, 0, "-15");
        dueBothWays("-1hard/0soft", 1, 1, "-1 0");
        dueBothWays("-1hard/0medium/3soft", 2, 1, "-1 0 3");
        dueBothWays("[-1/0]hard/[3]soft", 3, 2, "-1 0 3");
        dueBothWays("7hard/-8soft", 1, 1, "7 -8");
        dueBothWays("7hard/-8medium/9soft", 2, 1, "7 -8 9");
        dueBothWays("[-1]hard/[0]soft", 3, 1, "-1 0");
        dueBothWays("[1/2/3/4/5/6]hard/[-1/-2/-3/-4/-5/-6]soft", 3, 6, "1 2 3 4 5 6 -1 -2 -3 -4 -5 -6");
    }

    private static void emptyBrackets() {
        CHECKS.sentence("[] for none");
        dueBothWays("[]hard/[7]soft", 3, 0, "7");
        dueBothWays("[7]hard/[]soft", 3, 1, "7");
        dueBothWays("[]hard/[1/2/3/4/5/6]soft", 3, 0, "1 2 3 4 5 6");
        dueBothWays("[1/2/3/4/5/6]hard/[]soft", 3, 6, "1 2 3 4 5 6");
    }

    // ---- promise 10

    private static void putOutside() {
        CHECKS.sentence("10: OUTSIDE: not 0 .. 127");
        LevelScores x = new LevelScores();
        int[] outside = {-1, 128, 255, 256 + '2', Integer.MIN_VALUE, Integer.MAX_VALUE};
        x.put('1');
        for (int c : outside) {
            CHECKS.due("put(" + c + ")", x.put(c), LevelScores.OUTSIDE);
        }
        CHECKS.due("many(3)", x.many(3), 1);
        CHECKS.due("read()", x.read(), 0);
        CHECKS.due("its level", Checks.levels(x, 0), "1");
        CHECKS.due("put(0)", x.put(0), 1);
        CHECKS.due("put(127)", x.put(127), 2);
    }

    private static void putFull() {
        CHECKS.sentence("10: FULL: there are 300");
        LevelScores x = new LevelScores();
        for (int i = 1; i <= 300; i++) {
            CHECKS.due("put number " + i, x.put('5'), i);
        }
        CHECKS.due("put number 301", x.put('5'), LevelScores.FULL);
        CHECKS.due("put(128) beside 300", x.put(128), LevelScores.OUTSIDE);
        CHECKS.due("put(-1) beside 300", x.put(-1), LevelScores.OUTSIDE);
        CHECKS.due("many(3)", x.many(3), 300);
        CHECKS.due("read()", x.read(), -119);
        CHECKS.due("put after it", x.put('5'), 1);
    }

    // ---- promise 11

    private static void readEmpties() {
        CHECKS.sentence("11: THE TAPE, which is empty then");
        String[] texts = {"12", "-", "1x", "[]hard/[]soft", ""};
        for (String text : texts) {
            LevelScores x = new LevelScores();
            Checks.read(x, text);
            CHECKS.due("many(3) after read of " + text, x.many(3), 0);
            CHECKS.due("read() after it", x.read(), -100);
            int before = x.many(0);
            CHECKS.due("read of another text after it", Checks.read(x, "3"), before);
            CHECKS.due("its level", Checks.levels(x, before), "3");
        }
    }

    private static void readEmptyTape() {
        CHECKS.sentence("11: its length, if it only begins as one: an empty tape");
        LevelScores x = new LevelScores();
        CHECKS.due("read()", x.read(), -100);
        CHECKS.due("many(0)", x.many(0), 0);
    }

    /** Of all 128 bytes these and no others may follow; a text that has only begun ends at its length. */
    private static void dueNext(String begun, String allowed) {
        boolean isNumber = begun.matches("0|-?[1-9][0-9]*");
        boolean isText = isNumber || begun.endsWith("soft");
        CHECKS.due("read of " + begun, Checks.read(new LevelScores(), begun), isText ? 0 : -100 - begun.length());
        for (char c = 0; c < 128; c++) {
            boolean goesOn = allowed.indexOf(c) >= 0;
            boolean endsText = c == 't' || DIGITS.indexOf(c) >= 0 && begun.matches("-?[0-9]*");
            int want = !goesOn ? -100 - begun.length() : endsText ? 0 : -101 - begun.length();
            LevelScores x = new LevelScores();
            CHECKS.due("read of " + begun + " and byte " + (int) c, Checks.read(x, begun + c), want);
            CHECKS.due("many(0) after it", x.many(0), want == 0 ? 1 : 0);
        }
    }

    /** Each byte of the word is the only one that may come next. */
    private static void dueWord(String begun, String word) {
        for (int i = 0; i < word.length(); i++) {
            dueNext(begun + word.substring(0, i), word.substring(i, i + 1));
        }
    }

    private static void readNumberBytes() {
        CHECKS.sentence("11: the first byte with which no TEXT begins so any more: in a NUMBER");
        dueNext("", NUMBER_BEGINS + "[");
        String[] ahead = {"", "1hard/", "1hard/2medium/", "[", "[1/", "[1]hard/[", "[]hard/[", "[]hard/[1/", "[1/2/3/4/5/", "[]hard/[1/2/3/4/5/"};
        String[] behind = {"h", "ms", "s", "/]", "/]", "/]", "/]", "/]", "]", "]"};
        for (int i = 0; i < ahead.length; i++) {
            dueNext(ahead[i] + "-", BEHIND_MINUS);
            dueNext(ahead[i] + "0", behind[i]);
            dueNext(ahead[i] + "7", DIGITS + behind[i]);
            dueNext(ahead[i] + "-7", DIGITS + behind[i]);
            dueNext(ahead[i] + "10", DIGITS + behind[i]);
        }
    }

    private static void readNumberOf64Bits() {
        CHECKS.sentence("11: with NUMBERS of 64 bits");
        String[] ahead = {"", "1hard/", "1hard/2medium/", "[", "[1]hard/[", "[]hard/[1/2/3/4/5/"};
        String[] behind = {"h", "ms", "s", "/]", "/]", "]"};
        for (int i = 0; i < ahead.length; i++) {
            dueNext(ahead[i] + "922337203685477579", DIGITS + behind[i]);
            dueNext(ahead[i] + "922337203685477580", "01234567" + behind[i]);
            dueNext(ahead[i] + "922337203685477581", behind[i]);
            dueNext(ahead[i] + "999999999999999999", behind[i]);
            dueNext(ahead[i] + "-922337203685477579", DIGITS + behind[i]);
            dueNext(ahead[i] + "-922337203685477580", "012345678" + behind[i]);
            dueNext(ahead[i] + "-922337203685477581", behind[i]);
            dueNext(ahead[i] + "-999999999999999999", behind[i]);
            dueNext(ahead[i] + "1000000000000000000", behind[i]);
            dueNext(ahead[i] + MOST, behind[i]);
            dueNext(ahead[i] + LEAST, behind[i]);
        }
    }

    private static void readWordBytes() {
        CHECKS.sentence("11: the first byte with which no TEXT begins so any more: in a word");
        dueWord("0", "hard/");
        dueNext("0hard/", NUMBER_BEGINS);
        dueWord("0hard/0s", "oft");
        dueWord("0hard/0m", "edium/");
        dueNext("0hard/0medium/", NUMBER_BEGINS);
        dueWord("0hard/0medium/0", "soft");
    }

    private static void readBracketBytes() {
        CHECKS.sentence("11: the first byte with which no TEXT begins so any more: in and behind a [ ]");
        dueNext("[", NUMBER_BEGINS + "]");
        dueNext("[1/", NUMBER_BEGINS);
        dueWord("[1]", "hard/[");
        dueWord("[]", "hard/[");
        dueNext("[1]hard/[", NUMBER_BEGINS + "]");
        dueNext("[1]hard/[2/", NUMBER_BEGINS);
        dueWord("[1]hard/[2]", "soft");
        dueWord("[1]hard/[]", "soft");
        dueWord("[]hard/[2]", "soft");
    }

    private static void readSixAtMost() {
        CHECKS.sentence("11: 6 in a [ ] at most");
        dueNext("[1/2/3/4/5", DIGITS + "/]");
        dueNext("[1/2/3/4/5/6", DIGITS + "]");
        dueNext("[1/2/3/4/5/6]hard/[1/2/3/4/5", DIGITS + "/]");
        dueNext("[1/2/3/4/5/6]hard/[1/2/3/4/5/6", DIGITS + "]");
        dueNext("[]hard/[1/2/3/4/5/6", DIGITS + "]");
    }

    private static void readOneInBoth() {
        CHECKS.sentence("11: one in both at least");
        dueNext("[]hard/[", NUMBER_BEGINS);
        CHECKS.due("read of []hard/[]soft", Checks.read(new LevelScores(), "[]hard/[]soft"), -108);
        CHECKS.due("read of []hard/[0]soft", Checks.read(new LevelScores(), "[]hard/[0]soft"), 0);
        CHECKS.due("read of [0]hard/[]soft", Checks.read(new LevelScores(), "[0]hard/[]soft"), 0);
    }

    private static void readBeginsOnly() {
        CHECKS.sentence("11: its length, if it only begins as one");
        String[] texts = {"-1hard/0soft", "-1hard/0medium/3soft", "[-1/0]hard/[3]soft", LONGEST};
        for (String text : texts) {
            for (int length = 0; length < text.length(); length++) {
                String begun = text.substring(0, length);
                if (!begun.matches("-?[0-9]+")) {
                    LevelScores x = new LevelScores();
                    CHECKS.due("read of " + begun, Checks.read(x, begun), -100 - length);
                    CHECKS.due("many(0) after it", x.many(0), 0);
                }
            }
        }
    }

    private static void readBehindText() {
        CHECKS.sentence("11: the first byte with which no TEXT begins so any more: behind a TEXT");
        dueNext("1hard/2soft", "");
        dueNext("1hard/2medium/3soft", "");
        dueNext("[1]hard/[2]soft", "");
        dueNext("[1/2/3/4/5/6]hard/[1/2/3/4/5/6]soft", "");
    }

    private static void readLongest() {
        CHECKS.sentence("11: read as a TEXT: the longest");
        LevelScores x = new LevelScores();
        CHECKS.due("its length", LONGEST.length(), 263);
        CHECKS.due("read of the longest", Checks.read(x, LONGEST), 0);
        CHECKS.due("its levels", Checks.levels(x, 0), (LEAST + " ").repeat(11) + LEAST);
        CHECKS.due("read of the longest but for a byte", Checks.read(new LevelScores(), LONGEST.substring(0, 262)), -362);
        CHECKS.due("read of the longest and a byte", Checks.read(new LevelScores(), LONGEST + "s"), -363);
    }

    private static void readTheWholeTape() {
        CHECKS.sentence("11: a tape of 300 bytes");
        LevelScores x = new LevelScores();
        CHECKS.due("read of the longest and 37 bytes", Checks.read(x, LONGEST + "7".repeat(37)), -363);
        CHECKS.due("many(0)", x.many(0), 0);
        CHECKS.due("many(3)", x.many(3), 0);
        CHECKS.due("read of 300 digits", Checks.read(new LevelScores(), "0" + "1".repeat(299)), -101);
        CHECKS.due("read of 300 [", Checks.read(new LevelScores(), "[".repeat(300)), -101);
    }

    private static void readFull() {
        CHECKS.sentence("11: FULL, ahead of reading (it is empty then, too)");
        String[] texts = {"1", "x", "-", "", "[]hard/[]soft"};
        for (String text : texts) {
            LevelScores x = new LevelScores();
            Checks.fill(x);
            CHECKS.due("read of " + text, Checks.read(x, text), LevelScores.FULL);
            CHECKS.due("many(3) after it", x.many(3), 0);
            CHECKS.due("many(0) after it", x.many(0), 60);
            x.drop();
            CHECKS.due("read() when there is room again", x.read(), -100);
            CHECKS.due("read of 5 when there is room again", Checks.read(x, "5"), 59);
            CHECKS.due("its level", Checks.levels(x, 59), "5");
        }
    }

    // ---- promises 12 and 13

    private static void printUnknown() {
        CHECKS.sentence("12: UNKNOWN");
        LevelScores x = new LevelScores();
        CHECKS.due("print(0) of none", x.print(0), LevelScores.UNKNOWN);
        duePrint(x, Checks.simple(x, -42), "-42");
        int[] numbers = {-1, 1, 59, 60, Integer.MIN_VALUE, Integer.MAX_VALUE};
        for (int number : numbers) {
            CHECKS.due("print(" + number + ")", x.print(number), LevelScores.UNKNOWN);
        }
        CHECKS.due("OUT", Checks.out(x), "-42");
        x.drop();
        CHECKS.due("print of one dropped", x.print(0), LevelScores.UNKNOWN);
        CHECKS.due("OUT", Checks.out(x), "-42");
    }

    private static void printNull() {
        CHECKS.sentence("12: NULL");
        LevelScores x = new LevelScores();
        x.nothing();
        CHECKS.due("print(0)", x.print(0), LevelScores.NULL);
        CHECKS.due("many(4)", x.many(4), 0);
        duePrint(x, Checks.simple(x, -42), "-42");
        CHECKS.due("print(0)", x.print(0), LevelScores.NULL);
        CHECKS.due("OUT", Checks.out(x), "-42");
    }

    private static void printLongest() {
        CHECKS.sentence("12: A SCORE is written to OUT: how many bytes: the longest");
        LevelScores x = new LevelScores();
        long least = Long.MIN_VALUE;
        duePrint(x, Checks.bent(x, 6, least, least, least, least, least, least, least, least, least, least, least, least), LONGEST);
        CHECKS.due("out(262)", x.out(262), 't');
        CHECKS.due("out(263)", x.out(263), LevelScores.NONE);
    }

    private static void printReplaces() {
        CHECKS.sentence("12: A SCORE is written to OUT: after another one");
        LevelScores x = new LevelScores();
        duePrint(x, Checks.three(x, -1, 0, 3), "-1hard/0medium/3soft");
        duePrint(x, Checks.simple(x, 8), "8");
        CHECKS.due("out(1)", x.out(1), LevelScores.NONE);
        CHECKS.due("many(4)", x.many(4), 1);
        x.set(1, 0, 9);
        CHECKS.due("OUT after a change of the SCORE", Checks.out(x), "8");
        Checks.fill(x);
        duePrint(x, 0, "-1hard/0medium/3soft");
    }

    private static void outNone() {
        CHECKS.sentence("13: NONE");
        LevelScores x = new LevelScores();
        CHECKS.due("out(0) at first", x.out(0), LevelScores.NONE);
        x.print(Checks.simple(x, -12));
        CHECKS.due("out(0)", x.out(0), '-');
        CHECKS.due("out(2)", x.out(2), '2');
        int[] places = {-1, 3, 262, 263, 300, Integer.MIN_VALUE, Integer.MAX_VALUE};
        for (int i : places) {
            CHECKS.due("out(" + i + ")", x.out(i), LevelScores.NONE);
        }
    }
}
