/** The bounds of MEN, PAPERS, DAYS, NETS, BOATS and HEIRS (Terms 1 and 2; promises 1 and 3 to 12). */
public final class BookBoundsTest {
    private static final int NONE = AdvanceBook.NONE;
    private static final int MAX = Integer.MAX_VALUE;
    private static final int MIN = Integer.MIN_VALUE;
    private static final long NO_PAPER = Due.NO_PAPER;
    private static final long NO_WHAT = Due.NO_WHAT;

    public static void main(String[] args) {
        newObjectTells();
        newObjectRefuses();
        newObjectClears();
        lastCall();
        menAtMost();
        menPurses();
        pursesLater();
        papersAtMost();
        papersMen();
        papersBothTheSame();
        papersCoins();
        papersRanks();
        papersDays();
        papersLeft();
        copies();
        copiesAcrossTheBook();
        copiesOfWhatIsGone();
        copiesAsTold();
        copiesAreToldOnly();
        copiesForEver();
        looksPapers();
        looksWhats();
        looksBothWrong();
        passBelow();
        passBeyond();
        pursesOfMen();
        netsOfMen();
        netsAtMost();
        threadOfNone();
        threadAtMost();
        movesOfNone();
        movesOpenOnBothSides();
        movesAtMost();
        movesNoneSuch();
        boatsGain();
        boatsCaptain();
        boatsParts();
        boatsCrew();
        boatsCaptainNotInCrew();
        boatsPartIsCut();
        boatsComeToPurses();
        heirsMen();
        heirsBothTheSame();
        heirsPurse();
        heirsPapersBetween();
        heirsNewOnes();
        heirsOfFullBook();
        Due.finish("BookBoundsTest");
    }

    private static void due(String call, long want, long got) {
        Due.due(call, want, got);
    }

    private static Counted tenMen() {
        return Counted.town(0, 0, 0, 0, 0, 0, 0, 0, 0, 0);
    }

    /** Forty papers of the first man to the others, all of 999 coins; no two are told the same. */
    private static Counted fullOfDebtsOfOne() {
        Counted book = tenMen();
        for (int paper = 0; paper < 40; paper++) {
            if (paper == 36) {
                book.pass(1);
            }
            book.paper(0, 1 + paper % 9, 999, paper / 9 % 4);
        }
        return book;
    }

    // ---- Promise 1

    private static void newObjectTells() {
        Due.says("1: No MEN, no PAPERS, DAY 0, an empty TAPE.");
        Counted book = new Counted();
        for (int what = 0; what <= 4; what++) {
            due("count(" + what + ")", 0, book.count(what));
        }
        due("ROUNDS", NONE, book.count(5));
        due("LINES", NONE, book.count(6));
        due("thread()", 0, book.thread());
        due("fault(0)", 0, book.fault(0));
        due("fault(1)", NONE, book.fault(1));
        due("decree(1)", -2, book.decree(1));
        due("feed", 20, book.feed(0, 0, 0, 0, 0));
        due("pass(0)", 0, book.pass(0));
    }

    private static void newObjectRefuses() {
        Due.says("1: No MEN, no PAPERS, DAY 0, an empty TAPE.");
        Counted book = new Counted();
        for (int man : new int[] {MIN, -1, 0, 1, 9, 10, MAX}) {
            due("purse(" + man + ")", NONE, book.purse(man));
            due("net(" + man + ")", MIN, book.net(man));
            due("boat of " + man, NONE, book.boat(0, man, 1, 0));
            Due.due("heir(" + man + ", 0)", false, book.heir(man, 0));
            Due.due("heir(0, " + man + ")", false, book.heir(0, man));
            due("paper(" + man + ", 0, 1, 0)", NONE, book.paper(man, 0, 1, 0));
            due("paper(0, " + man + ", 1, 0)", NONE, book.paper(0, man, 1, 0));
            due("look(" + man + ", 0)", NO_PAPER, book.look(man, 0));
            due("move(" + man + ", 0)", NONE, book.move(man, 0));
            for (int what = 0; what <= 3; what++) {
                due("cleared(" + what + ", " + man + ")", NONE, book.cleared(what, man));
            }
        }
        due("enact()", NONE, book.enact());
        due("MEN", 0, book.count(0));
        due("PAPERS", 0, book.count(1));
    }

    private static void newObjectClears() {
        Due.says("1: No MEN, no PAPERS, DAY 0, an empty TAPE.");
        Counted book = new Counted();
        due("clear(true)", 0, book.clear(true));
        due("ROUNDS", 0, book.count(5));
        due("clear(false)", 0, book.clear(false));
        for (int what = 0; what <= 3; what++) {
            due("cleared(" + what + ", 0)", NONE, book.cleared(what, 0));
        }
        due("decree(0)", 0, book.decree(0));
        due("enact()", 0, book.enact());
        due("end()", 0, book.end());
        due("TODAY", 1, book.count(2));
    }

    private static void lastCall() {
        Due.says("What it is: An object is used for at most 512 calls after it has been made");
        Counted book = new Counted();
        for (int call = 1; call <= Counted.MOST_CALLS; call++) {
            due("call " + call, call, book.pass(1));
        }
        due("all of them", Counted.MOST_CALLS, book.calls());
    }

    // ---- Promise 3

    private static void menAtMost() {
        Due.says("3: A MAN: the number; NONE: .. there are 10. Terms: MEN, at most 10, numbered from 0 on");
        Counted book = new Counted();
        for (int man = 0; man < 10; man++) {
            due("no such man yet: " + man, NONE, book.purse(man));
            due("man " + man, man, book.man(100 + man));
            due("MEN", man + 1, book.count(0));
        }
        for (int purse : new int[] {0, 1, 99999, 100000, -1, MIN, MAX}) {
            due("an eleventh with " + purse, NONE, book.man(purse));
        }
        due("MEN", 10, book.count(0));
        due("PURSES", 1045, book.count(4));
        for (int man = 0; man < 10; man++) {
            due("purse(" + man + ")", 100 + man, book.purse(man));
        }
        due("purse(10)", NONE, book.purse(10));
        Due.due("heir(9, 0)", true, book.heir(9, 0));
        due("nobody goes when his things do", NONE, book.man(0));
    }

    private static void menPurses() {
        Due.says("3: NONE: no such PURSE. Terms: each with a PURSE (0 .. 99999 coins at first)");
        Counted book = new Counted();
        for (int purse : Bounds.outside(0, 99999)) {
            due("man(" + purse + ")", NONE, book.man(purse));
        }
        due("MEN", 0, book.count(0));
        due("PURSES", 0, book.count(4));
        int[] taken = {0, 1, 99998, 99999};
        for (int man = 0; man < taken.length; man++) {
            due("man(" + taken[man] + ")", man, book.man(taken[man]));
            due("purse(" + man + ")", taken[man], book.purse(man));
        }
        due("man(100000)", NONE, book.man(100000));
        due("man(-1)", NONE, book.man(-1));
        due("MEN", 4, book.count(0));
    }

    private static void pursesLater() {
        Due.says("Terms: a PURSE (0 .. 99999 coins at first)");
        Counted book = Counted.town(99999, 99999, 99999, 99999, 99999, 99999, 99999, 99999, 99999, 99999);
        due("all PURSES", 999990, book.count(4));
        due("a BOAT", 9999, book.boat(9999, 0, 1, 0));
        due("beyond 99999", 109998, book.purse(0));
        for (int man = 1; man < 10; man++) {
            Due.due("heir(" + man + ", 0)", true, book.heir(man, 0));
        }
        due("all in one PURSE", 999990 + 9999, book.purse(0));
        book.paper(0, 1, 999, 0);
        book.end();
        due("behind the END", 999990 + 9999 - 999, book.purse(0));
        due("in the other PURSE", 999, book.purse(1));
        due("all PURSES behind it", 999990 + 9999, book.count(4));
    }

    // ---- Promise 4

    private static void papersAtMost() {
        Due.says("4: NONE: .. or there are 40. Terms: PAPERS, at most 40, numbered from 0 on");
        Counted book = Counted.town(0, 0);
        for (int paper = 0; paper < 40; paper++) {
            due("no such paper yet: " + paper, NO_PAPER, book.look(paper, 2));
            due("paper " + paper, paper, book.paper(0, 1, 100 + paper, 0));
            due("PAPERS", paper + 1, book.count(1));
        }
        due("a 41st", NONE, book.paper(0, 1, 500, 0));
        due("a 41st that would be a COPY", NONE, book.paper(0, 1, 100, 0));
        due("a 41st of all that is wrong", NONE, book.paper(MIN, MAX, MIN, MAX));
        due("PAPERS", 40, book.count(1));
        due("LEFT in all", 40 * 100 + 780, book.count(3));
        for (int paper = 0; paper < 40; paper++) {
            due("look(" + paper + ", 2)", 100 + paper, book.look(paper, 2));
        }
        due("look(40, 2)", NO_PAPER, book.look(40, 2));
        Due.due("heir(0, 1)", true, book.heir(0, 1));
        due("no PAPER goes when nothing is LEFT", NONE, book.paper(0, 1, 500, 0));
        due("PAPERS still", 40, book.count(1));
    }

    private static void papersMen() {
        Due.says("4: NONE: no such men");
        Counted book = tenMen();
        for (int man : Bounds.outside(0, 9)) {
            due("debtor " + man, NONE, book.paper(man, 0, 1, 0));
            due("creditor " + man, NONE, book.paper(0, man, 1, 0));
            due("both " + man, NONE, book.paper(man, man, 1, 0));
        }
        due("PAPERS", 0, book.count(1));
        due("the first to the last", 0, book.paper(0, 9, 1, 0));
        due("the last to the first", 1, book.paper(9, 0, 1, 0));
        Counted one = Counted.town(5);
        due("to a man who isn't there yet", NONE, one.paper(0, 1, 1, 0));
        due("of a man who isn't there yet", NONE, one.paper(1, 0, 1, 0));
        one.man(0);
        due("he is there", 0, one.paper(0, 1, 1, 0));
    }

    private static void papersBothTheSame() {
        Due.says("4: NONE: .. both the same. Terms: a DEBT of one man to another one");
        Counted book = tenMen();
        for (int man = 0; man < 10; man++) {
            due("of " + man + " to himself", NONE, book.paper(man, man, 1, 0));
        }
        due("PAPERS", 0, book.count(1));
        for (int man = 0; man < 9; man++) {
            due("of " + man + " to the next", man, book.paper(man, man + 1, 1, 0));
        }
    }

    private static void papersCoins() {
        Due.says("4: NONE: .. no such coins. Terms: of 1 .. 999 coins");
        Counted book = Counted.town(0, 0);
        for (int coins : Bounds.outside(1, 999)) {
            due("coins " + coins, NONE, book.paper(0, 1, coins, 0));
        }
        due("PAPERS", 0, book.count(1));
        int[] taken = {1, 2, 998, 999};
        for (int paper = 0; paper < taken.length; paper++) {
            due("coins " + taken[paper], paper, book.paper(0, 1, taken[paper], 0));
            due("coins as told", taken[paper], book.look(paper, 2));
        }
        due("LEFT in all", 2000, book.count(3));
    }

    private static void papersRanks() {
        Due.says("4: NONE: .. no such .. RANK. Terms: of a RANK 0 .. 3");
        Counted book = Counted.town(0, 0);
        for (int rank : Bounds.outside(0, 3)) {
            due("RANK " + rank, NONE, book.paper(0, 1, 7, rank));
        }
        due("PAPERS", 0, book.count(1));
        for (int rank = 0; rank <= 3; rank++) {
            due("RANK " + rank, rank, book.paper(0, 1, 7, rank));
            due("RANK as it is", rank, book.look(rank, 3));
        }
        due("PAPERS", 4, book.count(1));
    }

    private static void papersDays() {
        Due.says("Terms: told TODAY (DAYS 0 .. 999, 0 at first)");
        Counted book = Counted.town(0, 0);
        book.paper(0, 1, 7, 0);
        book.pass(998);
        book.paper(0, 1, 7, 0);
        book.pass(1);
        due("on the last DAY", 2, book.paper(0, 1, 7, 0));
        due("again on the last DAY", 3, book.paper(0, 1, 7, 0));
        long[] days = {0, 998, 999, 999};
        long[] copies = {0, 0, 0, 1};
        for (int paper = 0; paper < 4; paper++) {
            due("DAY of " + paper, days[paper], book.look(paper, 5));
            due("COPY: " + paper, copies[paper], book.look(paper, 6));
        }
        due("LEFT in all", 21, book.count(3));
    }

    private static void papersLeft() {
        Due.says("Terms: What is LEFT of it: all at first.");
        Counted book = Counted.town(500, 0);
        book.paper(0, 1, 1, 3);
        book.paper(1, 0, 999, 0);
        due("of the least", 1, book.look(0, 4));
        due("of the most", 999, book.look(1, 4));
        due("a PURSE pays nothing by itself", 500, book.purse(0));
    }

    private static void copies() {
        Due.says("Terms: the same debtor, creditor, coins and RANK as one ahead of it told on the same DAY .. is a COPY");
        Counted book = Counted.town(0, 0, 0);
        int[][] told = {{0, 1, 5, 2}, {0, 1, 5, 2}, {2, 1, 5, 2}, {0, 2, 5, 2}, {0, 1, 4, 2}, {0, 1, 6, 2},
                {0, 1, 5, 1}, {0, 1, 5, 3}, {1, 0, 5, 2}, {0, 1, 5, 2}, {1, 0, 5, 2}};
        int[] copy = {0, 1, 0, 0, 0, 0, 0, 0, 0, 1, 1};
        for (int paper = 0; paper < told.length; paper++) {
            int[] one = told[paper];
            due("a COPY has a number", paper, book.paper(one[0], one[1], one[2], one[3]));
            due("COPY: " + paper, copy[paper], book.look(paper, 6));
            due("LEFT of " + paper, copy[paper] == 1 ? 0 : one[2], book.look(paper, 4));
            due("coins as told of " + paper, one[2], book.look(paper, 2));
        }
        due("the one ahead stays", 5, book.look(0, 4));
        book.pass(0);
        book.paper(0, 1, 5, 2);
        due("still the same DAY", 1, book.look(11, 6));
        book.pass(1);
        book.paper(0, 1, 5, 2);
        due("the next DAY", 0, book.look(12, 6));
        book.end();
        book.paper(0, 1, 5, 2);
        due("the DAY behind an END", 0, book.look(13, 6));
    }

    private static void copiesAcrossTheBook() {
        Due.says("Terms: the same .. as one ahead of it told on the same DAY .. is a COPY");
        Counted book = Counted.town(0, 0);
        for (int paper = 0; paper < 39; paper++) {
            book.paper(0, 1, 1 + paper, 0);
        }
        due("the last PAPER", 39, book.paper(0, 1, 1, 0));
        due("is a COPY of the first", 1, book.look(39, 6));
        due("nothing is LEFT of it", 0, book.look(39, 4));
        due("LEFT in all", 39 * 40 / 2, book.count(3));
        Counted other = Counted.town(0, 0);
        for (int paper = 0; paper < 39; paper++) {
            other.paper(0, 1, 1 + paper, 0);
        }
        due("the last PAPER", 39, other.paper(0, 1, 39, 0));
        due("is a COPY of the one ahead", 1, other.look(39, 6));
    }

    private static void copiesOfWhatIsGone() {
        Due.says("Terms: the same .. as one ahead of it told on the same DAY .. is a COPY");
        Counted book = Counted.town(0, 0);
        book.paper(0, 1, 50, 0);
        book.decree("cut 0 100;");
        book.enact();
        due("nothing is LEFT of the one ahead", 0, book.look(0, 4));
        book.paper(0, 1, 50, 0);
        due("a COPY all the same", 1, book.look(1, 6));
        due("nothing is LEFT of it", 0, book.count(3));
    }

    private static void copiesAsTold() {
        Due.says("Terms: (all as they were told)");
        Counted book = Counted.town(0, 0, 0, 0);
        book.paper(0, 1, 50, 0);
        book.decree("move 0 3;cut 0 10;");
        book.enact();
        book.heir(0, 2);
        book.heir(1, 3);
        int[][] told = {{2, 3, 45, 3}, {2, 3, 50, 3}, {2, 3, 50, 0}, {0, 3, 50, 0}, {2, 1, 50, 0}, {0, 1, 50, 3},
                {0, 1, 45, 0}};
        for (int paper = 0; paper < told.length; paper++) {
            int[] one = told[paper];
            due("as it is now", 1 + paper, book.paper(one[0], one[1], one[2], one[3]));
            due("is no COPY: " + (1 + paper), 0, book.look(1 + paper, 6));
        }
        book.paper(0, 1, 50, 0);
        due("as it was told", 1, book.look(8, 6));
        due("nothing is LEFT of it", 0, book.look(8, 4));
    }

    private static void copiesAreToldOnly() {
        Due.says("Terms: A PAPER that tells the same .. as one ahead of it");
        Counted book = Counted.town(0, 0);
        due("no such creditor: no PAPER", NONE, book.paper(0, 2, 50, 0));
        book.man(0);
        due("told for the first time", 0, book.paper(0, 2, 50, 0));
        due("no COPY", 0, book.look(0, 6));
        due("all LEFT", 50, book.look(0, 4));
    }

    private static void copiesForEver() {
        Due.says("Terms: nothing is LEFT of it, ever");
        Counted book = Counted.town(0, 0, 0);
        book.paper(0, 1, 50, 0);
        book.paper(0, 1, 50, 0);
        book.decree("cut 0 0;move 0 2;spare 999;");
        book.enact();
        due("behind a DECREE", 0, book.look(1, 4));
        book.clear(false);
        due("nothing is paid of it", 0, book.cleared(0, 1));
        book.heir(0, 2);
        due("behind an HEIR", 0, book.look(1, 4));
        book.boat(70, 2, 1, 0);
        due("END", 50, book.end());
        due("behind an END", 0, book.look(1, 4));
        book.pass(9);
        due("behind some DAYS", 0, book.look(1, 4));
        due("a COPY still", 1, book.look(1, 6));
        due("paid once", 20, book.purse(2));
    }

    // ---- Promise 5

    private static void looksPapers() {
        Due.says("5: IndexOutOfBoundsException: no such PAPER.");
        Counted book = Counted.town(0, 0);
        for (int paper : Bounds.outside(0, -1)) {
            due("without PAPERS: look(" + paper + ", 0)", NO_PAPER, book.look(paper, 0));
        }
        due("look(0, 6)", NO_PAPER, book.look(0, 6));
        book.paper(0, 1, 3, 0);
        due("the first", 3, book.look(0, 2));
        due("behind the first", NO_PAPER, book.look(1, 2));
        Counted full = fullOfDebtsOfOne();
        for (int paper : Bounds.outside(0, 39)) {
            for (int what = 0; what <= 6; what += 2) {
                due("look(" + paper + ", " + what + ")", NO_PAPER, full.look(paper, what));
            }
        }
        due("the last", 999, full.look(39, 2));
        due("PAPERS", 40, full.count(1));
    }

    private static void looksWhats() {
        Due.says("5: NoSuchElementException: no such what.");
        Counted book = fullOfDebtsOfOne();
        for (int what : Bounds.outside(0, 6)) {
            due("look(0, " + what + ")", NO_WHAT, book.look(0, what));
            due("look(39, " + what + ")", NO_WHAT, book.look(39, what));
        }
        long[] last = {0, 4, 999, 0, 999, 1, 0};
        for (int what = 0; what <= 6; what++) {
            due("look(39, " + what + ")", last[what], book.look(39, what));
        }
    }

    private static void looksBothWrong() {
        Due.says("5: IndexOutOfBoundsException: no such PAPER. NoSuchElementException: no such what.");
        Counted book = Counted.town(0, 0);
        due("without PAPERS", NO_PAPER, book.look(0, 7));
        book.paper(0, 1, 3, 0);
        due("look(1, 7)", NO_PAPER, book.look(1, 7));
        due("look(-1, -1)", NO_PAPER, book.look(-1, -1));
        due("look(MIN, MAX)", NO_PAPER, book.look(MIN, MAX));
    }

    // ---- Promise 6

    private static void passBelow() {
        Due.says("6: NONE, and nothing happens: below 0");
        Counted book = new Counted();
        for (int days : new int[] {-1, -2, -999, -1000, MIN, MIN + 1, MIN + 999}) {
            due("on DAY 0: pass(" + days + ")", NONE, book.pass(days));
        }
        due("TODAY", 0, book.count(2));
        due("pass(999)", 999, book.pass(999));
        for (int days : new int[] {-1, -2, -999, -1000, MIN, MIN + 1, MIN + 999}) {
            due("on DAY 999: pass(" + days + ")", NONE, book.pass(days));
        }
        due("TODAY", 999, book.count(2));
    }

    private static void passBeyond() {
        Due.says("6: NONE, and nothing happens: .. beyond 999.");
        Counted book = new Counted();
        for (int days : Bounds.outside(0, 999)) {
            due("on DAY 0: pass(" + days + ")", NONE, book.pass(days));
        }
        due("TODAY", 0, book.count(2));
        due("none", 0, book.pass(0));
        due("one", 1, book.pass(1));
        due("one too many", NONE, book.pass(999));
        due("up to the last but one", 998, book.pass(997));
        due("two", NONE, book.pass(2));
        due("TODAY", 998, book.count(2));
        due("the last", 999, book.pass(1));
        for (int days : Bounds.outside(0, 0)) {
            due("on DAY 999: pass(" + days + ")", NONE, book.pass(days));
        }
        due("none", 999, book.pass(0));
        due("TODAY", 999, book.count(2));
        due("all at once", 999, new Counted().pass(999));
    }

    // ---- Promises 7 and 8

    private static void pursesOfMen() {
        Due.says("7: A PURSE; NONE: no such man.");
        Counted book = Counted.town(10, 11, 12, 13, 14, 15, 16, 17, 18, 19);
        for (int man : Bounds.outside(0, 9)) {
            due("purse(" + man + ")", NONE, book.purse(man));
        }
        due("the first", 10, book.purse(0));
        due("the last", 19, book.purse(9));
        due("one man", 5, Counted.town(5).purse(0));
        due("behind one man", NONE, Counted.town(5).purse(1));
    }

    private static void netsOfMen() {
        Due.says("8: NET; Integer.MIN_VALUE: no such man.");
        Counted book = tenMen();
        for (int man : Bounds.outside(0, 9)) {
            due("net(" + man + ")", MIN, book.net(man));
        }
        book.paper(0, 9, 1, 0);
        due("the first", -1, book.net(0));
        due("the last", 1, book.net(9));
        due("one without PAPERS", 0, book.net(5));
        due("behind one man", MIN, Counted.town(5).net(1));
    }

    private static void netsAtMost() {
        Due.says("Terms: NET of a man: what is LEFT of PAPERS to him less what is LEFT of his.");
        Counted book = Counted.town(99999, 0);
        for (int day = 0; day < 10; day++) {
            for (int rank = 0; rank <= 3; rank++) {
                book.paper(0, 1, 999, rank);
            }
            book.pass(1);
        }
        due("as low as it gets, a PURSE or not", -39960, book.net(0));
        due("as high as it gets", 39960, book.net(1));
        due("THREAD", 39960, book.thread());
        due("in one MOVE", 39960, book.move(0, 2));
        due("no second", NONE, book.move(1, 2));
        due("all paid", 39960, book.end());
        due("nothing is LEFT", 0, book.net(0));
        due("of him neither", 0, book.net(1));
        due("no THREAD", 0, book.thread());
    }

    // ---- Promises 9 and 10

    private static void threadOfNone() {
        Due.says("9: THREAD. Terms: the sum of those NETS above 0");
        Counted book = Counted.town(7, 8);
        due("no PAPERS", 0, book.thread());
        book.paper(0, 1, 30, 0);
        book.paper(1, 0, 29, 1);
        due("one coin", 1, book.thread());
        book.paper(1, 0, 1, 0);
        due("all NETS are 0", 0, book.thread());
        due("no MOVE", NONE, book.move(0, 0));
        due("LEFT all the same", 60, book.count(3));
    }

    private static void threadAtMost() {
        Due.says("9: THREAD. Terms: the sum of those NETS above 0");
        Counted book = fullOfDebtsOfOne();
        due("all that the first one owes", 39960, book.thread());
        due("his NET", -39960, book.net(0));
        book.heir(0, 9);
        due("less the PAPERS to the heir", 39960 - 4 * 999, book.thread());
    }

    private static void movesOfNone() {
        Due.says("10: NONE if there is none such.");
        for (Counted book : new Counted[] {new Counted(), Counted.town(5), tenMen()}) {
            for (int k : new int[] {MIN, -1, 0, 1, 9, 10, MAX}) {
                for (int what = -1; what <= 3; what++) {
                    due("move(" + k + ", " + what + ")", NONE, book.move(k, what));
                }
            }
        }
    }

    private static void movesOpenOnBothSides() {
        Due.says("Terms: each as much as is open on both sides");
        Counted book = Counted.town(0, 0, 0, 0, 0, 0, 0);
        // nets: +5, -5, +6, -7, 0, +1, 0; the first pair comes out even, so it leaves no MOVE of 0
        book.paper(1, 0, 5, 0);
        book.paper(3, 2, 6, 0);
        book.paper(3, 4, 1, 0);
        book.paper(4, 5, 1, 0);
        int[][] moves = {{1, 0, 5}, {3, 2, 6}, {3, 5, 1}};
        for (int k = 0; k < moves.length; k++) {
            for (int what = 0; what <= 2; what++) {
                due("move(" + k + ", " + what + ")", moves[k][what], book.move(k, what));
            }
        }
        due("no MOVE of 0", NONE, book.move(3, 2));
        due("THREAD", 12, book.thread());
        Counted two = Counted.town(0, 0, 0, 0);
        // nets: -2, -2, +1, +3
        two.paper(0, 3, 2, 0);
        two.paper(1, 3, 1, 0);
        two.paper(1, 2, 1, 0);
        int[][] three = {{0, 2, 1}, {0, 3, 1}, {1, 3, 2}};
        for (int k = 0; k < three.length; k++) {
            for (int what = 0; what <= 2; what++) {
                due("of two: move(" + k + ", " + what + ")", three[k][what], two.move(k, what));
            }
        }
        due("of two: no fourth", NONE, two.move(3, 0));
    }

    private static void movesAtMost() {
        Due.says("Terms: the men with a NET below 0, by numbers, pay those with one above 0, by numbers");
        Counted one = tenMen();
        for (int man = 0; man < 9; man++) {
            one.paper(9, man, 10 + man, 0);
        }
        Counted nine = tenMen();
        for (int man = 1; man < 10; man++) {
            nine.paper(man, 0, 10 + man, 0);
        }
        for (int k = 0; k < 9; k++) {
            due("the last pays " + k, 9, one.move(k, 0));
            due("gets " + k, k, one.move(k, 1));
            due("coins " + k, 10 + k, one.move(k, 2));
            due("pays " + k, k + 1, nine.move(k, 0));
            due("the first gets " + k, 0, nine.move(k, 1));
            due("coins of " + k, 11 + k, nine.move(k, 2));
        }
        due("no tenth", NONE, one.move(9, 0));
        due("no tenth to the first", NONE, nine.move(9, 0));
    }

    private static void movesNoneSuch() {
        Due.says("10: MOVE k of THREAD, what 0: who pays, 1: who gets, 2: coins. NONE if there is none such.");
        Counted book = Counted.town(0, 0, 0);
        book.paper(0, 1, 4, 0);
        book.paper(0, 2, 5, 0);
        for (int k : Bounds.outside(0, 1)) {
            due("move(" + k + ", 0)", NONE, book.move(k, 0));
        }
        for (int what : Bounds.outside(0, 2)) {
            due("move(0, " + what + ")", NONE, book.move(0, what));
            due("move(1, " + what + ")", NONE, book.move(1, what));
        }
        due("the first", 4, book.move(0, 2));
        due("the last", 5, book.move(1, 2));
    }

    // ---- Promise 11

    private static void boatsGain() {
        Due.says("11: NONE, and nothing happens: no such gain. Terms: a gain of 0 .. 9999 coins");
        Counted book = Counted.town(1, 1);
        for (int gain : Bounds.outside(0, 9999)) {
            due("gain " + gain, NONE, book.boat(gain, 0, 1, 2));
        }
        due("nothing happened", 2, book.count(4));
        due("gain 0", 0, book.boat(0, 0, 1, 2));
        due("nothing came", 2, book.count(4));
        due("gain 1", 0, book.boat(1, 0, 1, 2));
        due("gain 9998", 4999, book.boat(9998, 0, 1, 2));
        due("gain 9999", 4999, book.boat(9999, 0, 1, 2));
        due("the captain", 1 + 1 + 4999 + 5000, book.purse(0));
        due("the crew", 1 + 4999 + 4999, book.purse(1));
    }

    private static void boatsCaptain() {
        Due.says("11: NONE, and nothing happens: no such .. captain");
        Counted book = tenMen();
        for (int captain : Bounds.outside(0, 9)) {
            due("captain " + captain, NONE, book.boat(10, captain, 1, 0));
            due("captain " + captain + " with a crew", NONE, book.boat(10, captain, 1, 6));
        }
        due("nothing happened", 0, book.count(4));
        due("the first", 10, book.boat(10, 0, 1, 0));
        due("the last", 10, book.boat(10, 9, 1, 0));
        due("his PURSE", 10, book.purse(9));
        due("behind one man", NONE, Counted.town(5).boat(10, 1, 1, 0));
    }

    private static void boatsParts() {
        Due.says("11: NONE, and nothing happens: no such .. PARTS. Terms: a captain with PARTS 1 .. 9");
        Counted book = Counted.town(0, 0);
        for (int parts : Bounds.outside(1, 9)) {
            due("PARTS " + parts, NONE, book.boat(100, 0, parts, 2));
        }
        // with a crew of one, -1 PARTS would make none in all
        due("PARTS -1", NONE, book.boat(100, 0, -1, 2));
        due("nothing happened", 0, book.count(4));
        due("PARTS 1", 50, book.boat(100, 0, 1, 2));
        due("PARTS 9", 10, book.boat(100, 0, 9, 2));
        due("the captain", 50 + 90, book.purse(0));
        due("the crew", 50 + 10, book.purse(1));
    }

    private static void boatsCrew() {
        Due.says("11: NONE, and nothing happens: no such .. crew. Terms: a crew (bits of MEN, the captain not)");
        Counted book = Counted.town(0, 0, 0);
        for (int bit = 3; bit < 32; bit++) {
            due("of nobody: bit " + bit, NONE, book.boat(100, 0, 1, 1 << bit));
            due("of nobody too: bit " + bit, NONE, book.boat(100, 0, 1, 1 << bit | 6));
        }
        for (int crew : new int[] {-1, -2, MIN, MAX, MAX - 1, -8, 8, 14, MIN + 6}) {
            due("crew " + crew, NONE, book.boat(100, 0, 1, crew));
        }
        due("nothing happened", 0, book.count(4));
        due("no crew", 100, book.boat(100, 0, 1, 0));
        due("all but the captain", 33, book.boat(100, 0, 1, 6));
        Counted full = tenMen();
        for (int bit = 10; bit < 32; bit++) {
            due("of nobody in ten: bit " + bit, NONE, full.boat(100, 0, 1, 1 << bit | 2));
        }
        due("nothing happened", 0, full.count(4));
        due("the last man alone", 50, full.boat(100, 0, 1, 1 << 9));
        due("nine men", 10, full.boat(100, 9, 1, 511));
        due("the last man", 60, full.purse(9));
        due("the first man", 60, full.purse(0));
        Counted one = Counted.town(0);
        due("a crew of one man's town", NONE, one.boat(100, 0, 1, 2));
        due("of himself", NONE, one.boat(100, 0, 1, 1));
        due("alone", 100, one.boat(100, 0, 1, 0));
    }

    private static void boatsCaptainNotInCrew() {
        Due.says("Terms: a crew (bits of MEN, the captain not)");
        Counted book = tenMen();
        for (int captain = 0; captain < 10; captain++) {
            due("alone in his crew: " + captain, NONE, book.boat(100, captain, 1, 1 << captain));
            due("in a crew of all: " + captain, NONE, book.boat(100, captain, 1, 1023));
        }
        due("nothing happened", 0, book.count(4));
        for (int captain = 0; captain < 10; captain++) {
            due("all but him: " + captain, 10, book.boat(100, captain, 1, 1023 & ~(1 << captain)));
        }
        due("all alike", 100, book.purse(7));
    }

    private static void boatsPartIsCut() {
        Due.says("Terms: each PART is gain by all PARTS, cut; the captain has his PARTS and what remains.");
        Counted book = Counted.town(0, 0, 0);
        due("as many coins as PARTS", 1, book.boat(11, 0, 9, 6));
        due("the captain", 9, book.purse(0));
        due("the crew", 1, book.purse(1));
        due("a coin less", 0, book.boat(10, 0, 9, 6));
        due("all to the captain", 19, book.purse(0));
        due("none to the crew", 1, book.purse(1));
        due("a coin short of two", 1, book.boat(21, 0, 9, 6));
        due("the captain", 19 + 19, book.purse(0));
        due("the crew", 2, book.purse(2));
        Counted full = tenMen();
        due("18 PARTS of 9999", 555, full.boat(9999, 0, 9, 1022));
        due("the captain", 555 * 9 + 9, full.purse(0));
        due("the last man", 555, full.purse(9));
        due("all of it", 9999, full.count(4));
    }

    private static void boatsComeToPurses() {
        Due.says("Terms: All come to PURSES.");
        Counted book = Counted.town(99999, 99999);
        book.paper(0, 1, 5, 0);
        due("beyond what a PURSE is at first", 4999, book.boat(9999, 0, 1, 2));
        due("the captain", 99999 + 5000, book.purse(0));
        due("the crew", 99999 + 4999, book.purse(1));
        due("no PAPER is paid", 5, book.count(3));
    }

    // ---- Promise 12

    private static void heirsMen() {
        Due.says("12: false: no such men");
        Counted book = Counted.town(1, 1, 1, 1, 1, 1, 1, 1, 1, 1);
        book.paper(0, 9, 5, 0);
        for (int man : Bounds.outside(0, 9)) {
            Due.due("heir(" + man + ", 0)", false, book.heir(man, 0));
            Due.due("heir(0, " + man + ")", false, book.heir(0, man));
            Due.due("heir(" + man + ", " + man + ")", false, book.heir(man, man));
        }
        for (int man = 0; man < 10; man++) {
            due("nothing happened to " + man, 1, book.purse(man));
        }
        due("the PAPER stays", 5, book.look(0, 4));
        Due.due("the last one's heir is the first", true, book.heir(9, 0));
        Due.due("the first one's heir is the last", true, book.heir(0, 9));
        Due.due("behind one man", false, Counted.town(5).heir(0, 1));
    }

    private static void heirsBothTheSame() {
        Due.says("12: false: .. both the same.");
        Counted book = Counted.town(7, 8);
        book.paper(0, 1, 5, 0);
        Due.due("heir(0, 0)", false, book.heir(0, 0));
        Due.due("heir(1, 1)", false, book.heir(1, 1));
        due("his PURSE", 7, book.purse(0));
        due("the other PURSE", 8, book.purse(1));
        due("the PAPER", 5, book.look(0, 4));
        due("its debtor", 0, book.look(0, 0));
    }

    private static void heirsPurse() {
        Due.says("Terms: a man's PURSE and PAPERS go to another one; .. he himself has 0 then");
        Counted book = Counted.town(99999, 99999, 0);
        Due.due("heir", true, book.heir(0, 1));
        due("he has", 0, book.purse(0));
        due("the heir has", 199998, book.purse(1));
        Due.due("of one who has nothing", true, book.heir(2, 1));
        due("no more", 199998, book.purse(1));
        Due.due("to one who has nothing", true, book.heir(1, 0));
        due("all", 199998, book.purse(0));
        due("all PURSES", 199998, book.count(4));
    }

    private static void heirsPapersBetween() {
        Due.says("Terms: of PAPERS between the two nothing is LEFT any more");
        Counted book = Counted.town(0, 0, 0);
        book.paper(0, 1, 999, 0);
        book.paper(1, 0, 1, 3);
        book.paper(0, 1, 999, 0);
        book.paper(0, 2, 7, 1);
        book.paper(2, 1, 8, 1);
        book.paper(1, 2, 9, 1);
        Due.due("heir", true, book.heir(0, 1));
        long[] lefts = {0, 0, 0, 7, 8, 9};
        long[] debtors = {1, 1, 1, 1, 2, 1};
        long[] creditors = {1, 1, 1, 2, 1, 2};
        long[] coins = {999, 1, 999, 7, 8, 9};
        for (int paper = 0; paper < 6; paper++) {
            due("LEFT of " + paper, lefts[paper], book.look(paper, 4));
            due("debtor of " + paper, debtors[paper], book.look(paper, 0));
            due("creditor of " + paper, creditors[paper], book.look(paper, 1));
            due("coins as told of " + paper, coins[paper], book.look(paper, 2));
        }
        due("the COPY is one still", 1, book.look(2, 6));
        due("the heir's NET", 8 - 7 - 9, book.net(1));
        due("no PAPER is gone", 6, book.count(1));
        due("the heir alone fails", 1, book.clear(false));
        due("the heir owes", 8, book.cleared(3, 1));
    }

    private static void heirsNewOnes() {
        Due.says("Terms: he himself has 0 then and may have new ones");
        Counted book = Counted.town(10, 20);
        book.paper(0, 1, 5, 0);
        book.heir(0, 1);
        due("his NET", 0, book.net(0));
        due("a new PAPER between the two", 1, book.paper(1, 0, 6, 0));
        due("is LEFT", 6, book.look(1, 4));
        due("a BOAT of his", 3, book.boat(3, 0, 1, 0));
        due("END", 6, book.end());
        due("he has", 9, book.purse(0));
        due("the heir has", 24, book.purse(1));
        Due.due("again", true, book.heir(0, 1));
        due("again he has", 0, book.purse(0));
        due("again the heir has", 33, book.purse(1));
    }

    private static void heirsOfFullBook() {
        Due.says("12: An HEIR: true. Terms: a man's PURSE and PAPERS go to another one");
        Counted book = fullOfDebtsOfOne();
        Due.due("heir(0, 9)", true, book.heir(0, 9));
        for (int paper = 0; paper < 40; paper++) {
            due("debtor of " + paper, 9, book.look(paper, 0));
            due("creditor of " + paper, 1 + paper % 9, book.look(paper, 1));
            due("LEFT of " + paper, paper % 9 == 8 ? 0 : 999, book.look(paper, 4));
        }
        due("LEFT in all", 36 * 999, book.count(3));
    }
}
