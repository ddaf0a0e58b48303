import java.nio.charset.StandardCharsets;

/** What the tests share: comparing answers with those that are due, and feeding texts. */
final class Due {
    private static final int WRONG_SHOWN = 40;
    private static int wrong = 0;
    private static int asked = 0;

    private Due() {
    }

    static void due(String call, long want, long got) {
        asked++;
        if (got != want) {
            wrong++;
            if (wrong <= WRONG_SHOWN) {
                System.out.println(call + " answered " + got + ", due is " + want);
            }
        }
    }

    static void due(String call, boolean want, boolean got) {
        due(call, want ? 1 : 0, got ? 1 : 0);
    }

    static void finish(String test) {
        System.out.println(test + ": " + asked + " answers, " + wrong + " not as due");
        System.exit(wrong == 0 ? 0 : 1);
    }

    /** What look answers; MIN_VALUE for IndexOutOfBounds, MAX_VALUE for NoSuchElement. */
    static long look(AdvanceBook book, int paper, int what) {
        try {
            return book.look(paper, what);
        } catch (IndexOutOfBoundsException e) {
            return Long.MIN_VALUE;
        } catch (java.util.NoSuchElementException e) {
            return Long.MAX_VALUE;
        }
    }

    static int feedBytes(AdvanceBook book, byte[] bytes) {
        int answer = AdvanceBook.NONE;
        for (int at = 0; at < bytes.length; at += 20) {
            answer = book.feed(word(bytes, at), word(bytes, at + 4), word(bytes, at + 8),
                    word(bytes, at + 12), word(bytes, at + 16));
        }
        return answer;
    }

    static int decree(AdvanceBook book, String text) {
        byte[] bytes = text.getBytes(StandardCharsets.ISO_8859_1);
        feedBytes(book, bytes);
        return book.decree(bytes.length);
    }

    private static int word(byte[] bytes, int from) {
        int word = 0;
        for (int at = from; at < from + 4; at++) {
            word = word << 8 | (at < bytes.length ? bytes[at] & 255 : 0);
        }
        return word;
    }
}
