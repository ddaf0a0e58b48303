import java.nio.charset.StandardCharsets;

/** A book that counts its calls: behind the 512th nothing is promised, so no test may ask there. */
final class Counted {
    static final int NONE = AdvanceBook.NONE;
    static final int MOST_CALLS = 512;

    private final AdvanceBook book = new AdvanceBook();
    private int calls = 0;

    static Counted town(int... purses) {
        Counted book = new Counted();
        for (int purse : purses) {
            book.man(purse);
        }
        return book;
    }

    int calls() {
        return calls;
    }

    private AdvanceBook called() {
        if (calls >= MOST_CALLS) {
            throw new IllegalStateException("this test asks for more than is promised");
        }
        calls++;
        return book;
    }

    int feed(int a, int b, int c, int d, int e) {
        return called().feed(a, b, c, d, e);
    }

    /** Feeds the text's bytes, with bytes 0 behind them up to the next twenty. */
    int feedText(String text) {
        byte[] bytes = text.getBytes(StandardCharsets.ISO_8859_1);
        int answer = NONE;
        for (int at = 0; at < bytes.length; at += 20) {
            answer = feed(word(bytes, at), word(bytes, at + 4), word(bytes, at + 8),
                    word(bytes, at + 12), word(bytes, at + 16));
        }
        return answer;
    }

    /** Four bytes as a number, the highest first; 0 behind the last byte. */
    private static int word(byte[] bytes, int from) {
        int word = 0;
        for (int at = from; at < from + 4; at++) {
            word = word << 8 | (at < bytes.length ? bytes[at] & 255 : 0);
        }
        return word;
    }

    int man(int purse) {
        return called().man(purse);
    }

    int paper(int debtor, int creditor, int coins, int rank) {
        return called().paper(debtor, creditor, coins, rank);
    }

    long look(int paper, int what) {
        return Due.look(called(), paper, what);
    }

    int pass(int days) {
        return called().pass(days);
    }

    int purse(int man) {
        return called().purse(man);
    }

    int net(int man) {
        return called().net(man);
    }

    int thread() {
        return called().thread();
    }

    int move(int k, int what) {
        return called().move(k, what);
    }

    int boat(int gain, int captain, int parts, int crew) {
        return called().boat(gain, captain, parts, crew);
    }

    boolean heir(int man, int heir) {
        return called().heir(man, heir);
    }

    int decree(int n) {
        return called().decree(n);
    }

    /** Feeds a text to an empty TAPE and takes all of it for a DECREE. */
    int decree(String text) {
        feedText(text);
        return decree(text.length());
    }

    int fault(int what) {
        return called().fault(what);
    }

    int clear(boolean beside) {
        return called().clear(beside);
    }

    int cleared(int what, int k) {
        return called().cleared(what, k);
    }

    int enact() {
        return called().enact();
    }

    int end() {
        return called().end();
    }

    int count(int what) {
        return called().count(what);
    }
}
