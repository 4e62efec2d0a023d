import java.util.NoSuchElementException;

/** What the tests share: answers that are due, and short ways to make scores and to hold texts against the tape. */
final class Checks {
    private int asked = 0;
    private int wrong = 0;
    private String sentence = "";

    /** The words of the document that the answers from here on are held against. */
    void sentence(String words) {
        sentence = "(" + words + ") ";
    }

    void due(String call, long got, long want) {
        asked++;
        if (got != want) {
            wrong++;
            System.out.println(sentence + call + " answered " + got + ", due is " + want);
        }
    }

    void due(String call, String got, String want) {
        asked++;
        if (!got.equals(want)) {
            wrong++;
            System.out.println(sentence + call + " answered " + got + ", due is " + want);
        }
    }

    /** Ends the program, with exit code 1 if an answer was wrong. */
    void end() {
        System.out.println(asked + " answers looked at, " + wrong + " not as due");
        System.exit(wrong == 0 && asked > 0 ? 0 : 1);
    }

    /** What at() answers, or the simple name of what it throws. */
    static String at(LevelScores x, int score, int level) {
        try {
            return Long.toString(x.at(score, level));
        } catch (IndexOutOfBoundsException | NoSuchElementException e) {
            return e.getClass().getSimpleName();
        }
    }

    /** All levels of a score, with blanks between. */
    static String levels(LevelScores x, int score) {
        StringBuilder all = new StringBuilder();
        int size = x.told(score, 2);
        for (int level = 0; level < size; level++) {
            all.append(level == 0 ? "" : " ").append(at(x, score, level));
        }
        return all.toString();
    }

    private static int filled(LevelScores x, int score, long[] levels) {
        for (int level = 0; level < levels.length; level++) {
            if (x.set(score, level, levels[level]) != 1) {
                throw new AssertionError("level " + level + " can't be set");
            }
        }
        return score;
    }

    static int simple(LevelScores x, long v) {
        return filled(x, x.make(0, 0, 0), new long[] {v});
    }

    static int two(LevelScores x, long hard, long soft) {
        return filled(x, x.make(1, 0, 0), new long[] {hard, soft});
    }

    static int three(LevelScores x, long hard, long medium, long soft) {
        return filled(x, x.make(2, 0, 0), new long[] {hard, medium, soft});
    }

    static int bent(LevelScores x, int h, long... levels) {
        return filled(x, x.make(3, h, levels.length - h), levels);
    }

    /** The levels of a score that a call has just made, which is dropped again. */
    static String levelsDropped(LevelScores x, int score) {
        if (score < 0) {
            return "failure " + score;
        }
        String levels = levels(x, score);
        x.drop();
        return levels;
    }

    /** Numbers with nothing, up to the limit of 60. */
    static void fill(LevelScores x) {
        for (int i = x.many(0); i < 60; i++) {
            x.nothing();
        }
    }

    static void type(LevelScores x, String text) {
        for (int i = 0; i < text.length(); i++) {
            x.put(text.charAt(i));
        }
    }

    /** What read() answers to a text on an empty tape. */
    static int read(LevelScores x, String text) {
        type(x, text);
        return x.read();
    }

    /** All bytes of OUT. */
    static String out(LevelScores x) {
        StringBuilder all = new StringBuilder();
        int length = x.many(4);
        for (int i = 0; i < length; i++) {
            all.append((char) x.out(i));
        }
        return all.toString();
    }
}
