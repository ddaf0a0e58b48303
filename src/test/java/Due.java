import java.util.NoSuchElementException;

/** What the tests share: comparing answers with those that are due. */
final class Due {
    /** What look answers where the document wants IndexOutOfBoundsException. */
    static final long NO_PAPER = Long.MIN_VALUE;
    /** What look answers where the document wants NoSuchElementException. */
    static final long NO_WHAT = Long.MAX_VALUE;

    private static final int WRONG_SHOWN = 40;
    private static String sentence = "";
    private static int wrong = 0;
    private static int asked = 0;

    private Due() {
    }

    /** The document's sentence that the answers from now on are due by. */
    static void says(String words) {
        sentence = words + "\n    ";
    }

    static void due(String call, long want, long got) {
        asked++;
        if (got != want) {
            wrong++;
            if (wrong <= WRONG_SHOWN) {
                System.out.println(sentence + call + " answered " + got + ", due is " + want);
            }
        }
    }

    static void due(String call, boolean want, boolean got) {
        due(call, want ? 1 : 0, got ? 1 : 0);
    }

    static void finish(String test) {
        System.out.println(test + ": " + asked + " answers, " + wrong + " not as due");
        System.exit(wrong == 0 ? 0 : 1);
    }

    /** What look answers; NO_PAPER or NO_WHAT if it throws. */
    static long look(AdvanceBook book, int paper, int what) {
        try {
            return book.look(paper, what);
        } catch (IndexOutOfBoundsException | NoSuchElementException e) {
            // The machine's own ArrayIndexOutOfBoundsException must not pass for the document's.
            if (e.getClass() == IndexOutOfBoundsException.class) {
                return NO_PAPER;
            }
            if (e.getClass() == NoSuchElementException.class) {
                return NO_WHAT;
            }
            throw e;
        }
    }
}
