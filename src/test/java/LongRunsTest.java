import java.util.function.ToLongFunction;

/** Runs of just 512 calls: up to the last one each answer is due. */
public final class LongRunsTest {
    private static final int NONE = AdvanceBook.NONE;
    private static final int SEASONS = 20;
    private static final String TEXT = "cut 1 50;spare 4;";

    public static void main(String[] args) {
        twentySeasons();
        fullTownForLong();
        boatsForLong();
        textsForLong();
        eachCallAsTheLast();
        Due.finish("LongRunsTest");
    }

    private static void due(String call, long want, long got) {
        Due.due(call, want, got);
    }

    private static void isAtTheLastCall(Counted book) {
        due("calls of this run", Counted.MOST_CALLS, book.calls());
    }

    // ---- a debt of each season, told twice, cut by a decree, and never paid whole at once

    private static void twentySeasons() {
        Counted book = new Counted();
        due("man(0)", 0, book.man(0));
        due("man(0)", 1, book.man(0));
        for (int season = 0; season < SEASONS; season++) {
            Due.says("Season " + season + " of twenty in one run");
            // Of each debt of 10 the DECREE takes 3 and the boat pays 6, so a coin more stays open each
            // season, till 6 are open: of these the DECREE takes one, as 4 are spared.
            int open = Math.min(season, 6);
            int openByDecree = season < 6 ? open : open - 1;
            tellDebts(book, season, open);
            clearAsThingsAre(book, open);
            tryDecree(book, season, openByDecree);
            int less = 3 + open - openByDecree;
            endSeason(book, season, less, openByDecree);
        }
        lastTenCalls(book);
        isAtTheLastCall(book);
    }

    private static void tellDebts(Counted book, int season, int open) {
        due("boat()", 5, book.boat(11, 0, 1, 2));
        due("paper()", 2 * season, book.paper(0, 1, 10, 1));
        due("paper() again", 2 * season + 1, book.paper(0, 1, 10, 1));
        due("a COPY", 1, book.look(2 * season + 1, 6));
        due("net(0)", -(open + 10), book.net(0));
        due("thread()", open + 10, book.thread());
        due("move(0, 2)", open + 10, book.move(0, 2));
    }

    private static void clearAsThingsAre(Counted book, int open) {
        due("clear(false)", 1, book.clear(false));
        due("owes and doesn't pay", open + 10 - 6, book.cleared(3, 0));
    }

    private static void tryDecree(Counted book, int season, int openByDecree) {
        due("feed()", 20, book.feedText(TEXT));
        due("decree()", 2, book.decree(TEXT.length()));
        due("fault(0)", 0, book.fault(0));
        due("LINES", 2, book.count(6));
        due("clear(true)", 1, book.clear(true));
        due("owes by the DECREE and doesn't pay", openByDecree + 1, book.cleared(3, 0));
        due("paid of the new paper", 6 - openByDecree, book.cleared(0, 2 * season));
    }

    private static void endSeason(Counted book, int season, int less, int openByDecree) {
        due("enact()", less, book.enact());
        due("LEFT in all", openByDecree + 7, book.count(3));
        due("end()", 6, book.end());
        due("TODAY", season + 1, book.count(2));
        due("the CLEARING at hand stays", openByDecree + 1, book.cleared(3, 0));
        due("purse(0)", 0, book.purse(0));
        due("purse(1)", 11 * (season + 1), book.purse(1));
        due("pass(0)", season + 1, book.pass(0));
        due("all PURSES", 11 * (season + 1), book.count(4));
    }

    private static void lastTenCalls(Counted book) {
        Due.says("Behind twenty seasons");
        due("a 41st paper", NONE, book.paper(0, 1, 10, 1));
        due("look(40, 0)", Due.NO_PAPER, book.look(40, 0));
        due("look(39, 7)", Due.NO_WHAT, book.look(39, 7));
        due("look(38, 4)", 6, book.look(38, 4));
        Due.due("heir(0, 1)", true, book.heir(0, 1));
        due("LEFT in all", 0, book.count(3));
        due("man(5)", 2, book.man(5));
        due("clear(true)", 0, book.clear(true));
        due("ROUNDS", 0, book.count(5));
        due("the 512th call", 0, book.end());
    }

    // ---- the book as full as it gets, and all that it tells

    private static void fullTownForLong() {
        Due.says("Ten men, forty papers, and 512 calls");
        Counted book = new Counted();
        for (int man = 0; man < 10; man++) {
            due("man()", man, book.man(99999));
        }
        for (int paper = 0; paper < 40; paper++) {
            due("paper()", paper, book.paper(paper % 10, (paper + 1) % 10, 999, paper / 10));
        }
        due("clear(false)", 0, book.clear(false));
        due("end()", 40 * 999, book.end());
        for (int paper = 0; paper < 40; paper++) {
            int[] want = {paper % 10, (paper + 1) % 10, 999, paper / 10, 0, 0, 0};
            for (int what = 0; what < 7; what++) {
                due("look(" + paper + ", " + what + ")", want[what], book.look(paper, what));
            }
            due("paid of " + paper, 999, book.cleared(0, paper));
        }
        for (int man = 0; man < 10; man++) {
            due("purse(" + man + ")", 99999, book.purse(man));
            due("net(" + man + ")", 0, book.net(man));
            due("has " + man, 99999, book.cleared(1, man));
            due("fails " + man, 0, book.cleared(2, man));
            due("owes " + man, 0, book.cleared(3, man));
        }
        for (int heir = 1; heir < 10; heir++) {
            Due.due("heir()", true, book.heir(heir - 1, heir));
            due("purse of heir " + heir, 99999 * (heir + 1), book.purse(heir));
        }
        while (book.calls() < Counted.MOST_CALLS - 1) {
            due("end()", 0, book.end());
        }
        due("TODAY", 1 + 512 - 1 - 10 - 40 - 2 - 320 - 50 - 18, book.count(2));
        isAtTheLastCall(book);
    }

    // ---- purses beyond what a man may come with

    private static void boatsForLong() {
        Due.says("11: All come to PURSES.");
        Counted book = Counted.town(99999, 99999, 99999);
        int boats = 0;
        while (book.calls() < Counted.MOST_CALLS - 5) {
            due("boat()", 909, book.boat(9999, 1, 9, 1 | 4));
            boats++;
        }
        due("crew", 99999 + 909 * boats, book.purse(0));
        due("captain", 99999 + 909 * 9 * boats, book.purse(1));
        due("all PURSES", 3 * 99999 + 9999 * boats, book.count(4));
        Due.due("heir(1, 2)", true, book.heir(1, 2));
        due("heir", 2 * 99999 + 909 * 10 * boats, book.purse(2));
        isAtTheLastCall(book);
    }

    // ---- text after text

    private static void textsForLong() {
        Due.says("13: The TAPE's first n bytes (it is empty then) are the DECREE at hand");
        Counted book = Counted.town(0, 0);
        book.paper(0, 1, 999, 0);
        int left = 999;
        for (int turn = 0; turn < 84; turn++) {
            due("feed()", 20, book.feedText("cut 0 " + turn + ";"));
            due("decree()", 1, book.decree(("cut 0 " + turn + ";").length()));
            due("feed() of a FAULT", 20, book.feedText("cut 0"));
            due("decree() of a FAULT", NONE, book.decree(5));
            due("place", 5, book.fault(1));
            due("enact() of the one at hand", left * turn / 100, book.enact());
            left -= left * turn / 100;
        }
        due("LEFT", left, book.look(0, 4));
        for (int fed = 20; book.calls() < Counted.MOST_CALLS; fed += 20) {
            due("feed()", fed, book.feed(0, 0, 0, 0, 0));
        }
        isAtTheLastCall(book);
    }

    // ---- each call of the face as the 512th one

    private static void lastCall(String call, long want, ToLongFunction<Counted> ask) {
        Counted book = Counted.town(10, 0, 5);
        book.paper(0, 1, 30, 2);
        book.paper(0, 1, 30, 2);
        book.paper(1, 2, 20, 1);
        book.pass(7);
        book.decree("cut 2 50;");
        book.clear(true);
        book.decree("move 2 0;cut 2 10;");
        book.feedText("spare 1;spare 2;");
        while (book.calls() < Counted.MOST_CALLS - 1) {
            due("call " + (book.calls() + 1), 5, book.purse(2));
        }
        due("the 512th call, " + call, want, ask.applyAsLong(book));
        isAtTheLastCall(book);
    }

    private static void eachCallAsTheLast() {
        Due.says("An object is used for at most 512 calls after it has been made");
        lastCall("feed", 40, book -> book.feed(1, 2, 3, 4, 5));
        lastCall("man", 3, book -> book.man(1));
        lastCall("paper", 3, book -> book.paper(2, 0, 1, 0));
        lastCall("look, LEFT", 30, book -> book.look(0, 4));
        lastCall("look, a COPY", 1, book -> book.look(1, 6));
        lastCall("look, no paper", Due.NO_PAPER, book -> book.look(3, 0));
        lastCall("look, no what", Due.NO_WHAT, book -> book.look(0, 7));
        lastCall("pass", 999, book -> book.pass(992));
        lastCall("purse", 10, book -> book.purse(0));
        lastCall("net", 10, book -> book.net(1));
        lastCall("thread", 30, book -> book.thread());
        lastCall("move, payer", 0, book -> book.move(1, 0));
        lastCall("move, getter", 2, book -> book.move(1, 1));
        lastCall("move, coins", 20, book -> book.move(1, 2));
        lastCall("boat", 33, book -> book.boat(100, 1, 1, 5));
        lastCall("heir", 1, book -> book.heir(0, 2) ? 1 : 0);
        lastCall("decree", 1, book -> book.decree(8));
        lastCall("decree with a fault", NONE, book -> book.decree(16));
        lastCall("decree of too many", -2, book -> book.decree(21));
        lastCall("fault", 0, book -> book.fault(0));
        lastCall("clear, as things are", 2, book -> book.clear(false));
        lastCall("clear, beside", 2, book -> book.clear(true));
        lastCall("cleared, paid", 10, book -> book.cleared(0, 0));
        lastCall("cleared, has", 15, book -> book.cleared(1, 2));
        lastCall("cleared, fails", 1, book -> book.cleared(2, 0));
        lastCall("cleared, owes", 10, book -> book.cleared(3, 1));
        lastCall("enact", 3, book -> book.enact());
        lastCall("end", 20, book -> book.end());
        lastCall("count, LEFT", 50, book -> book.count(3));
        lastCall("count, ROUNDS", 2, book -> book.count(5));
        lastCall("count, LINES", 2, book -> book.count(6));
    }
}
