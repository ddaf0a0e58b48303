import java.nio.charset.StandardCharsets;

/** What the tests share: comparing answers with those that are due, and feeding texts. */
final class Due {
    /** What look answers where the document wants IndexOutOfBoundsException. */
    static final long NO_PAPER = Long.MIN_VALUE;
    /** What look answers where the document wants NoSuchElementException. */
    static final long NO_WHAT = Long.MAX_VALUE;

    private static final int WRONG_SHOWN = 40;
    private static String sentence = "";
    private static int wrong = 0;
    private static int asked = 0;

    private Due() {
    }

    /** The document's sentence that the answers from now on are due by. */
    static void says(String words) {
        sentence = words + "\n    ";
    }

    static void due(String call, long want, long got) {
        asked++;
        if (got != want) {
            wrong++;
            if (wrong <= WRONG_SHOWN) {
                System.out.println(sentence + call + " answered " + got + ", due is " + want);
            }
        }
    }

    static void due(String call, boolean want, boolean got) {
        due(call, want ? 1 : 0, got ? 1 : 0);
    }

    static void finish(String test) {
        System.out.println(test + ": " + asked + " answers, " + wrong + " not as due");
        System.exit(wrong == 0 ? 0 : 1);
    }

    /** What look answers; NO_PAPER or NO_WHAT if it throws. */
    static long look(AdvanceBook book, int paper, int what) {
        try {
            return book.look(paper, what);
        } catch (IndexOutOfBoundsException e) {
            return NO_PAPER;
        } catch (java.util.NoSuchElementException e) {
            return NO_WHAT;
        }
    }

    static int feedBytes(AdvanceBook book, byte[] bytes) {
        int answer = AdvanceBook.NONE;
        for (int at = 0; at < bytes.length; at += 20) {
            answer = book.feed(word(bytes, at), word(bytes, at + 4), word(bytes, at + 8),
                    word(bytes, at + 12), word(bytes, at + 16));
        }
        return answer;
    }

    static int decree(AdvanceBook book, String text) {
        byte[] bytes = text.getBytes(StandardCharsets.ISO_8859_1);
        feedBytes(book, bytes);
        return book.decree(bytes.length);
    }

    /** Four bytes as a number, the highest first; 0 behind the last byte. */
    static int word(byte[] bytes, int from) {
        int word = 0;
        for (int at = from; at < from + 4; at++) {
            word = word << 8 | (at < bytes.length ? bytes[at] & 255 : 0);
        }
        return word;
    }
}
