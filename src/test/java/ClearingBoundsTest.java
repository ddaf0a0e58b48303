/** The bounds of CLEARINGS, of the season's END and of what is counted (Terms 2; promises 15, 16, 18 and 19). */
public final class ClearingBoundsTest {
    private static final int NONE = AdvanceBook.NONE;
    private static final int PAID = 0;
    private static final int HAS = 1;
    private static final int FAILS = 2;
    private static final int OWES = 3;

    public static void main(String[] args) {
        orderByRank();
        orderByNumbers();
        orderOfDecree();
        lastOneInPart();
        outOfWhatHeGets();
        mostIsPaid();
        roundZero();
        oneRoundAfterTheOther();
        roundLikeTheOneAhead();
        firstRoundInWhichHeFails();
        nobodyFails();
        nineFailAtMost();
        papersOfNothingLeft();
        besideWithoutDecree();
        besideEmptyDecree();
        besideNotInForce();
        besideToTheCoin();
        asItWasThen();
        theOneAtHand();
        clearedWithoutClearing();
        clearedPapers();
        clearedMen();
        clearedMenThen();
        clearedWhats();
        clearedDoesNotFail();
        endOnTheLastDay();
        endOnTheLastButOne();
        endPaysNothing();
        endPaysAll();
        endPaysInPart();
        endLeavesDecree();
        endLeavesClearing();
        countOfEmptyBook();
        countOfFullBook();
        countRounds();
        countLines();
        countOtherWhat();
        Due.finish("ClearingBoundsTest");
    }

    private static void due(String call, long want, long got) {
        Due.due(call, want, got);
    }

    private static void cleared(Counted book, String name, int what, int... want) {
        for (int k = 0; k < want.length; k++) {
            due(name + " " + k, want[k], book.cleared(what, k));
        }
        due(name + " behind the last", NONE, book.cleared(what, want.length));
    }

    /** Ten men, forty papers of 999 coins round the ring of them, and a coin in each PURSE. */
    private static Counted fullRing() {
        Counted book = Counted.town(1, 1, 1, 1, 1, 1, 1, 1, 1, 1);
        for (int paper = 0; paper < 40; paper++) {
            book.paper(paper % 10, (paper + 1) % 10, 999, paper / 10);
        }
        return book;
    }

    /** A chain of ten in which each pays the next one out of what he gets. */
    private static Counted chain(int firstPurse) {
        Counted book = Counted.town(firstPurse, 0, 0, 0, 0, 0, 0, 0, 0, 0);
        for (int man = 0; man < 9; man++) {
            book.paper(man, man + 1, 10, 0);
        }
        return book;
    }

    // ---- Terms 2: CLEARING

    private static void orderByRank() {
        Due.says("Terms: ORDER of a man's PAPERS: by RANK");
        for (int purse : new int[] {0, 1, 10, 11, 20, 21, 30, 39, 40}) {
            Counted book = Counted.town(purse, 0);
            for (int rank = 3; rank >= 0; rank--) {
                book.paper(0, 1, 10, rank);
            }
            due("fails with " + purse, purse < 40 ? 1 : 0, book.clear(false));
            for (int paper = 0; paper < 4; paper++) {
                int ahead = 10 * (3 - paper);
                due("paid of " + paper, Math.max(0, Math.min(10, purse - ahead)), book.cleared(PAID, paper));
            }
        }
    }

    private static void orderByNumbers() {
        Due.says("Terms: ORDER of a man's PAPERS: by RANK, then by numbers.");
        Counted book = Counted.town(25, 0, 0);
        book.paper(0, 2, 11, 1);
        book.pass(1);
        book.paper(0, 1, 9, 1);
        book.paper(0, 2, 1, 3);
        book.pass(1);
        book.paper(0, 1, 8, 1);
        book.paper(0, 1, 2, 0);
        book.clear(false);
        cleared(book, "paid", PAID, 11, 9, 0, 3, 2);
        Counted full = Counted.town(39, 0);
        for (int paper = 0; paper < 40; paper++) {
            full.pass(1);
            full.paper(0, 1, 1, 2);
        }
        full.clear(false);
        due("all but the last", 1, full.cleared(PAID, 38));
        due("the last of forty", 0, full.cleared(PAID, 39));
    }

    private static void orderOfDecree() {
        Due.says("15: CLEARING, by the DECREE at hand. Terms: then it has the RANK that move tells");
        Counted book = Counted.town(15, 0);
        book.paper(0, 1, 10, 1);
        book.paper(0, 1, 11, 0);
        book.paper(0, 1, 12, 2);
        book.decree("move 0 1;");
        book.clear(true);
        cleared(book, "of the same RANK by numbers: paid", PAID, 10, 5, 0);
        book.decree("move 2 0;");
        book.clear(true);
        cleared(book, "of RANK 0 by numbers: paid", PAID, 0, 11, 4);
        book.decree("move 0 3;move 1 2;move 2 1;");
        book.clear(true);
        cleared(book, "the other way round: paid", PAID, 3, 0, 12);
    }

    private static void lastOneInPart() {
        Due.says("Terms: each man pays his PAPERS in their ORDER, each in full, the last one in part");
        int[][] paid = {{0, 0, 0}, {1, 0, 0}, {99, 0, 0}, {100, 0, 0}, {100, 1, 0}, {100, 49, 0}, {100, 50, 0},
            {100, 50, 6}, {100, 50, 7}, {100, 50, 7}};
        int[] purses = {0, 1, 99, 100, 101, 149, 150, 156, 157, 158};
        for (int at = 0; at < purses.length; at++) {
            Counted book = Counted.town(purses[at], 0);
            book.paper(0, 1, 100, 0);
            book.paper(0, 1, 50, 0);
            book.paper(0, 1, 7, 1);
            due("fails with " + purses[at], purses[at] < 157 ? 1 : 0, book.clear(false));
            cleared(book, "paid", PAID, paid[at]);
            cleared(book, "has", HAS, Math.max(0, purses[at] - 157), Math.min(157, purses[at]));
            cleared(book, "ROUND", FAILS, purses[at] < 157 ? 1 : 0, 0);
            cleared(book, "owes", OWES, Math.max(0, 157 - purses[at]), 0);
        }
    }

    private static void outOfWhatHeGets() {
        Due.says("Terms: out of his PURSE and what he gets");
        for (int first = 58; first <= 61; first++) {
            Counted book = Counted.town(first, 40, 0);
            book.paper(0, 1, 60, 0);
            book.paper(1, 2, 100, 0);
            due("fail with " + first, first < 60 ? 2 : 0, book.clear(false));
            int gets = Math.min(60, first);
            cleared(book, "paid", PAID, gets, 40 + gets);
            cleared(book, "has", HAS, first - gets, 0, 40 + gets);
            cleared(book, "ROUND", FAILS, first < 60 ? 1 : 0, first < 60 ? 2 : 0, 0);
            cleared(book, "owes", OWES, 60 - gets, 60 - gets, 0);
        }
    }

    private static void mostIsPaid() {
        Due.says("Terms: It is the one in which most is paid");
        Counted book = Counted.town(0, 0);
        book.paper(0, 1, 999, 0);
        book.paper(1, 0, 999, 0);
        due("two with nothing", 0, book.clear(false));
        cleared(book, "paid", PAID, 999, 999);
        cleared(book, "has", HAS, 0, 0);
        book.paper(0, 1, 1, 1);
        due("a coin more", 1, book.clear(false));
        cleared(book, "paid", PAID, 999, 999, 0);
        Counted full = Counted.town(0, 0, 0, 0, 0, 0, 0, 0, 0, 0);
        for (int paper = 0; paper < 40; paper++) {
            full.paper(paper % 10, (paper + 1) % 10, 999, paper / 10);
        }
        due("a ring of ten with nothing", 0, full.clear(false));
        due("pays all", 39960, full.end());
        due("nothing is LEFT", 0, full.count(3));
    }

    private static void roundZero() {
        Due.says("Terms: at first all is taken to be paid in full (ROUND 0)");
        Counted book = Counted.town(0, 0);
        due("no PAPERS", 0, book.clear(false));
        due("ROUNDS", 0, book.count(5));
        Counted exact = Counted.town(10, 0);
        exact.paper(0, 1, 10, 0);
        due("just enough", 0, exact.clear(false));
        due("ROUNDS with just enough", 0, exact.count(5));
        exact.paper(0, 1, 1, 0);
        due("a coin short", 1, exact.clear(false));
        due("ROUNDS with a coin short", 1, exact.count(5));
    }

    private static void oneRoundAfterTheOther() {
        Due.says("Terms: in each ROUND more every man pays what he can out of his PURSE and what he got in the ROUND ahead");
        Counted up = chain(9);
        due("up the numbers", 9, up.clear(false));
        cleared(up, "ROUND", FAILS, 1, 2, 3, 4, 5, 6, 7, 8, 9, 0);
        due("ROUNDS", 9, up.count(5));
        Counted down = Counted.town(0, 0, 0, 0, 0, 0, 0, 0, 0, 9);
        for (int man = 9; man > 0; man--) {
            down.paper(man, man - 1, 10, 0);
        }
        due("down the numbers", 9, down.clear(false));
        cleared(down, "ROUND", FAILS, 0, 9, 8, 7, 6, 5, 4, 3, 2, 1);
        due("ROUNDS down the numbers", 9, down.count(5));
    }

    private static void roundLikeTheOneAhead() {
        Due.says("Terms: till a ROUND is like the one ahead");
        for (int coins = 1; coins <= 3; coins++) {
            Counted book = Counted.town(0, 0, 0);
            book.paper(0, 2, 1, 0);
            book.paper(0, 1, coins, 1);
            book.paper(1, 0, coins, 0);
            due("fail", 2, book.clear(false));
            due("ROUNDS with a coin leaking each turn", 2 * coins + 1, book.count(5));
            cleared(book, "paid", PAID, 0, 0, 0);
            cleared(book, "owes", OWES, 1 + coins, coins, 0);
        }
        Counted most = Counted.town(0, 0, 0);
        most.paper(0, 2, 1, 0);
        most.paper(0, 1, 999, 1);
        most.paper(1, 0, 999, 0);
        due("fail", 2, most.clear(false));
        due("ROUNDS of 999 coins", 1999, most.count(5));
    }

    private static void firstRoundInWhichHeFails() {
        Due.says("Terms: A man FAILS in the first ROUND in which he can't pay all (of ROUNDS from 1 on).");
        Counted book = Counted.town(0, 0, 0, 0);
        book.paper(0, 2, 1, 0);
        book.paper(0, 1, 10, 1);
        book.paper(1, 0, 10, 0);
        book.paper(2, 3, 1, 0);
        // the third gets his coin as long as one goes round between the first two
        due("fail", 3, book.clear(false));
        cleared(book, "ROUND", FAILS, 1, 2, 22, 0);
        due("ROUNDS", 22, book.count(5));
        Counted spare = Counted.town(0, 3, 0);
        spare.paper(0, 2, 1, 0);
        spare.paper(0, 1, 10, 1);
        spare.paper(1, 0, 10, 0);
        due("the second has coins to spare", 1, spare.clear(false));
        cleared(spare, "ROUND", FAILS, 1, 0, 0);
        cleared(spare, "has", HAS, 0, 2, 1);
    }

    private static void nobodyFails() {
        Due.says("15: how many men FAIL");
        Counted book = fullRing();
        due("of ten with enough", 0, book.clear(false));
        for (int man = 0; man < 10; man++) {
            due("ROUND of " + man, 0, book.cleared(FAILS, man));
            due("has: " + man, 1, book.cleared(HAS, man));
        }
        due("men without PAPERS", 0, Counted.town(0, 0, 0).clear(false));
    }

    // Ten can't: a coin more could go round among them, and then more would be paid.
    private static void nineFailAtMost() {
        Due.says("15: how many men FAIL");
        due("nine of ten", 9, chain(0).clear(false));
        due("nine by a coin", 9, chain(9).clear(false));
        due("none", 0, chain(10).clear(false));
    }

    private static void papersOfNothingLeft() {
        Due.says("Terms: CLEARING of what is LEFT");
        Counted book = Counted.town(0, 0);
        book.paper(0, 1, 50, 0);
        book.paper(0, 1, 50, 0);
        book.decree("cut 0 100;");
        book.enact();
        due("nobody fails", 0, book.clear(false));
        due("no ROUNDS", 0, book.count(5));
        cleared(book, "paid", PAID, 0, 0);
        Counted heirs = Counted.town(5, 0, 0);
        heirs.paper(0, 1, 50, 0);
        heirs.paper(0, 2, 6, 1);
        heirs.heir(0, 1);
        due("the heir fails", 1, heirs.clear(false));
        cleared(heirs, "paid to himself and others", PAID, 0, 5);
        cleared(heirs, "owes", OWES, 0, 1, 0);
    }

    // ---- Promise 15

    private static void besideWithoutDecree() {
        Due.says("15: (beside: true; without one as false)");
        Counted book = Counted.town(4, 0);
        book.paper(0, 1, 10, 0);
        due("never one", 1, book.clear(true));
        due("paid", 4, book.cleared(PAID, 0));
        book.decree("#");
        due("none with a FAULT", 1, book.clear(true));
        due("owes", 6, book.cleared(OWES, 0));
        book.decree("cut 0 50;");
        book.enact();
        due("none behind enact()", 1, book.clear(true));
        due("owes of what is LEFT", 1, book.cleared(OWES, 0));
    }

    private static void besideEmptyDecree() {
        Due.says("15: CLEARING, by the DECREE at hand (beside: true; without one as false)");
        Counted book = Counted.town(4, 0);
        book.paper(0, 1, 10, 0);
        due("an empty DECREE", 0, book.decree(0));
        due("cuts nothing", 1, book.clear(true));
        due("owes", 6, book.cleared(OWES, 0));
        due("is still at hand", 0, book.count(6));
    }

    private static void besideNotInForce() {
        Due.says("Terms: A DECREE may be tried beside, or put in FORCE");
        Counted book = Counted.town(4, 0);
        book.paper(0, 1, 10, 0);
        book.decree("cut 0 60;move 0 3;");
        due("beside", 0, book.clear(true));
        due("LEFT", 10, book.look(0, 4));
        due("RANK", 0, book.look(0, 3));
        due("NET", -10, book.net(0));
        due("THREAD", 10, book.thread());
        due("PURSE", 4, book.purse(0));
        due("LINES", 2, book.count(6));
        due("as things are", 1, book.clear(false));
        due("owes", 6, book.cleared(OWES, 0));
        due("beside again", 0, book.clear(true));
        due("owes nothing", 0, book.cleared(OWES, 0));
        due("put in FORCE", 6, book.enact());
        due("as things are now", 0, book.clear(false));
    }

    private static void besideToTheCoin() {
        Due.says("Terms: (perhaps less by a DECREE, 3.)");
        int[] fails = {1, 0, 0};
        int[] owes = {1, 0, 0};
        int[] has = {0, 0, 1};
        String[] texts = {"cut 0 59;", "cut 0 60;", "cut 0 61;"};
        for (int at = 0; at < texts.length; at++) {
            Counted book = Counted.town(40, 0);
            book.paper(0, 1, 100, 0);
            book.decree(texts[at]);
            due("clear(true) by " + texts[at], fails[at], book.clear(true));
            due("owes by " + texts[at], owes[at], book.cleared(OWES, 0));
            due("has by " + texts[at], has[at], book.cleared(HAS, 0));
            due("ROUNDS by " + texts[at], fails[at], book.count(5));
        }
    }

    private static void asItWasThen() {
        Due.says("15: It is the one at hand (as it was then).");
        Counted book = Counted.town(4, 0, 7);
        book.paper(0, 1, 10, 0);
        book.paper(1, 2, 5, 1);
        book.decree("cut 0 10;");
        due("clear(true)", 2, book.clear(true));
        book.man(50);
        book.paper(3, 0, 9, 0);
        book.boat(100, 0, 1, 2);
        book.enact();
        book.decree("move 0 1;cut 1 100;");
        book.enact();
        book.heir(2, 0);
        book.end();
        book.pass(3);
        cleared(book, "paid", PAID, 4, 4);
        cleared(book, "has", HAS, 0, 0, 11);
        cleared(book, "ROUND", FAILS, 1, 2, 0);
        cleared(book, "owes", OWES, 5, 1, 0);
        due("ROUNDS", 2, book.count(5));
    }

    private static void theOneAtHand() {
        Due.says("15: It is the one at hand");
        Counted book = Counted.town(3, 0, 0);
        book.paper(0, 1, 5, 0);
        book.paper(1, 2, 5, 0);
        due("two fail", 2, book.clear(false));
        due("ROUNDS", 2, book.count(5));
        book.boat(2, 0, 1, 0);
        due("none fails now", 0, book.clear(false));
        due("ROUNDS now", 0, book.count(5));
        cleared(book, "paid", PAID, 5, 5);
        cleared(book, "ROUND", FAILS, 0, 0, 0);
        cleared(book, "owes", OWES, 0, 0, 0);
    }

    // ---- Promise 16

    private static void clearedWithoutClearing() {
        Due.says("16: NONE: no CLEARING");
        Counted book = Counted.town(5, 5);
        book.paper(0, 1, 3, 0);
        book.decree("cut 0 5;");
        for (int what = -1; what <= 4; what++) {
            for (int k = -1; k <= 2; k++) {
                due("cleared(" + what + ", " + k + ")", NONE, book.cleared(what, k));
            }
        }
        book.enact();
        book.end();
        due("an END is none at hand", NONE, book.cleared(HAS, 0));
        due("nor of a PAPER", NONE, book.cleared(PAID, 0));
    }

    private static void clearedPapers() {
        Due.says("16: NONE: .. no such PAPER .. then");
        Counted few = Counted.town(1, 1, 1);
        few.clear(false);
        due("no PAPERS", NONE, few.cleared(PAID, 0));
        few.paper(0, 1, 1, 0);
        due("told later", NONE, few.cleared(PAID, 0));
        few.clear(false);
        due("told now", 1, few.cleared(PAID, 0));
        due("fewer PAPERS than men", NONE, few.cleared(PAID, 1));
        Counted full = fullRing();
        full.clear(false);
        for (int paper : Bounds.outside(0, 39)) {
            due("cleared(0, " + paper + ")", NONE, full.cleared(PAID, paper));
        }
        due("the first of forty", 999, full.cleared(PAID, 0));
        due("more PAPERS than men", 999, full.cleared(PAID, 10));
        due("the last of forty", 999, full.cleared(PAID, 39));
    }

    private static void clearedMen() {
        Due.says("16: NONE: .. no such .. (man) then");
        Counted full = fullRing();
        full.clear(false);
        for (int what = HAS; what <= OWES; what++) {
            for (int man : Bounds.outside(0, 9)) {
                due("cleared(" + what + ", " + man + ")", NONE, full.cleared(what, man));
            }
            due("the first: " + what, what == HAS ? 1 : 0, full.cleared(what, 0));
            due("the last: " + what, what == HAS ? 1 : 0, full.cleared(what, 9));
        }
    }

    private static void clearedMenThen() {
        Due.says("16: NONE: .. no such .. (man) then");
        Counted book = new Counted();
        book.clear(false);
        book.man(8);
        for (int what = HAS; what <= OWES; what++) {
            due("he came later: " + what, NONE, book.cleared(what, 0));
        }
        book.clear(false);
        due("he is there", 8, book.cleared(HAS, 0));
        due("behind him", NONE, book.cleared(HAS, 1));
    }

    private static void clearedWhats() {
        Due.says("16: NONE: .. no such .. what");
        Counted book = fullRing();
        book.clear(false);
        for (int what : Bounds.outside(0, 3)) {
            due("cleared(" + what + ", 0)", NONE, book.cleared(what, 0));
            due("cleared(" + what + ", 39)", NONE, book.cleared(what, 39));
            due("cleared(" + what + ", " + what + ")", NONE, book.cleared(what, what));
        }
    }

    private static void clearedDoesNotFail() {
        Due.says("16: 2: the ROUND in which a man FAILS (0: he doesn't)");
        Counted book = Counted.town(9, 10, 11, 0);
        for (int man = 0; man < 3; man++) {
            book.paper(man, 3, 10, 0);
        }
        due("a coin short alone", 1, book.clear(false));
        cleared(book, "ROUND", FAILS, 1, 0, 0, 0);
        cleared(book, "owes", OWES, 1, 0, 0, 0);
        cleared(book, "has", HAS, 0, 0, 1, 29);
    }

    // ---- Promise 18

    private static void endOnTheLastDay() {
        Due.says("18: NONE: TODAY is 999. (The CLEARING at hand stays.)");
        Counted book = Counted.town(5, 0);
        book.paper(0, 1, 3, 0);
        book.pass(999);
        due("no CLEARING", NONE, book.count(5));
        due("end()", NONE, book.end());
        due("end() again", NONE, book.end());
        due("TODAY", 999, book.count(2));
        due("nothing is paid", 3, book.look(0, 4));
        due("PURSE", 5, book.purse(0));
        due("no CLEARING still", NONE, book.count(5));
        book.clear(false);
        book.boat(1, 0, 1, 0);
        due("end() with a CLEARING", NONE, book.end());
        cleared(book, "has", HAS, 2, 3);
    }

    private static void endOnTheLastButOne() {
        Due.says("18: NONE: TODAY is 999. Terms: TODAY is the next DAY");
        Counted book = Counted.town(5, 0);
        book.paper(0, 1, 3, 0);
        book.paper(1, 0, 1, 0);
        book.pass(998);
        due("end() on DAY 998", 4, book.end());
        due("TODAY", 999, book.count(2));
        due("PURSE", 3, book.purse(0));
        due("no DAY behind it", NONE, book.end());
        due("TODAY still", 999, book.count(2));
        due("pass(0)", 999, book.pass(0));
        Counted first = new Counted();
        due("end() on DAY 0", 0, first.end());
        due("DAY 1", 1, first.count(2));
        due("up to the last", 999, first.pass(998));
    }

    private static void endPaysNothing() {
        Due.says("18: The season's END: how many coins were paid");
        Counted none = new Counted();
        due("no MEN", 0, none.end());
        Counted poor = Counted.town(0, 99999);
        due("no PAPERS", 0, poor.end());
        poor.paper(0, 1, 999, 0);
        due("nothing to pay with", 0, poor.end());
        due("all is LEFT", 999, poor.look(0, 4));
        due("a DAY later all the same", 2, poor.count(2));
    }

    private static void endPaysAll() {
        Due.says("Terms: PURSES are what is left behind it, of PAPERS what was paid is LEFT no more");
        Counted book = fullRing();
        due("all", 39960, book.end());
        due("LEFT in all", 0, book.count(3));
        due("PURSES", 10, book.count(4));
        due("of the last PAPER", 0, book.look(39, 4));
        due("its coins as told", 999, book.look(39, 2));
        due("PAPERS", 40, book.count(1));
        due("no more", 0, book.end());
        Counted rich = Counted.town(99999, 0);
        for (int day = 0; day < 10; day++) {
            for (int rank = 0; rank <= 3; rank++) {
                rich.paper(0, 1, 999, rank);
            }
            rich.pass(1);
        }
        due("all of one man", 39960, rich.end());
        due("his PURSE", 99999 - 39960, rich.purse(0));
        due("the other PURSE", 39960, rich.purse(1));
    }

    private static void endPaysInPart() {
        Due.says("Terms: of PAPERS what was paid is LEFT no more");
        Counted book = Counted.town(7, 0);
        book.paper(0, 1, 5, 1);
        book.paper(0, 1, 3, 1);
        due("paid", 7, book.end());
        due("in full", 0, book.look(0, 4));
        due("in part", 1, book.look(1, 4));
        due("PURSE", 0, book.purse(0));
        book.boat(1, 0, 1, 0);
        due("the rest", 1, book.end());
        due("nothing is LEFT", 0, book.count(3));
        due("the other PURSE", 8, book.purse(1));
    }

    private static void endLeavesDecree() {
        Due.says("Terms: A DECREE may be tried beside, or put in FORCE");
        Counted book = Counted.town(10, 0);
        book.paper(0, 1, 8, 0);
        book.decree("cut 0 50;");
        due("a DECREE at hand cuts nothing at the END", 8, book.end());
        due("LINES", 1, book.count(6));
        book.paper(0, 1, 2, 0);
        due("it is there to be put in FORCE", 1, book.enact());
        due("then it counts", 1, book.end());
    }

    private static void endLeavesClearing() {
        Due.says("18: (The CLEARING at hand stays.)");
        Counted book = Counted.town(3, 0, 0);
        book.paper(0, 1, 5, 0);
        book.paper(1, 2, 4, 0);
        book.clear(false);
        due("paid", 6, book.end());
        cleared(book, "paid", PAID, 3, 3);
        cleared(book, "has", HAS, 0, 0, 3);
        cleared(book, "ROUND", FAILS, 1, 2, 0);
        cleared(book, "owes", OWES, 2, 1, 0);
        due("ROUNDS", 2, book.count(5));
        book.man(0);
        book.paper(3, 0, 1, 0);
        book.end();
        cleared(book, "then: paid", PAID, 3, 3);
        cleared(book, "then: has", HAS, 0, 0, 3);
    }

    // ---- Promise 19

    private static void countOfEmptyBook() {
        Due.says("19: 0 MEN, 1 PAPERS, 2 TODAY, 3 LEFT in all, 4 all PURSES");
        Counted book = new Counted();
        int[] want = {0, 0, 0, 0, 0, NONE, NONE};
        for (int what = 0; what <= 6; what++) {
            due("count(" + what + ")", want[what], book.count(what));
        }
    }

    private static void countOfFullBook() {
        Due.says("19: 0 MEN, 1 PAPERS, 2 TODAY, 3 LEFT in all, 4 all PURSES");
        Counted book = Counted.town(99999, 99999, 99999, 99999, 99999, 99999, 99999, 99999, 99999, 99999);
        for (int paper = 0; paper < 40; paper++) {
            book.paper(paper % 10, (paper + 1) % 10, 999, paper / 10);
        }
        book.pass(999);
        int[] want = {10, 40, 999, 39960, 999990, NONE, NONE};
        for (int what = 0; what <= 6; what++) {
            due("count(" + what + ")", want[what], book.count(what));
        }
        Counted copies = Counted.town(0, 0);
        for (int paper = 0; paper < 40; paper++) {
            copies.paper(0, 1, 999, 0);
        }
        due("PAPERS with COPIES", 40, copies.count(1));
        due("LEFT without COPIES", 999, copies.count(3));
    }

    private static void countRounds() {
        Due.says("19: 5 ROUNDS of the CLEARING at hand (the last one that was not like the one ahead; NONE)");
        Counted book = chain(0);
        due("none at hand", NONE, book.count(5));
        book.end();
        due("none by an END", NONE, book.count(5));
        book.clear(false);
        due("nine", 9, book.count(5));
        due("a refused call", NONE, book.cleared(4, 0));
        due("nine still", 9, book.count(5));
        book.decree("cut 0 100;");
        book.clear(true);
        due("none was unlike ROUND 0", 0, book.count(5));
        book.clear(false);
        due("nine again", 9, book.count(5));
    }

    private static void countLines() {
        Due.says("19: 6 LINES of the DECREE at hand (NONE)");
        Counted book = new Counted();
        due("none at hand", NONE, book.count(6));
        book.decree("#");
        due("none with a FAULT", NONE, book.count(6));
        book.decree(0);
        due("no LINES", 0, book.count(6));
        book.decree("cut 0 1;cut 1 1;cut 2 1;cut 3 1;move 0 1;move 1 1;move 2 1;move 3 1;spare 1;before 1;");
        due("ten", 10, book.count(6));
        book.decree("cut 0 1;cut 0 1;");
        due("ten with a FAULT", 10, book.count(6));
        book.decree(1);
        due("ten with -2", 10, book.count(6));
        book.decree("spare 1;");
        due("one", 1, book.count(6));
        book.enact();
        due("none behind enact()", NONE, book.count(6));
    }

    private static void countOtherWhat() {
        Due.says("19: NONE for another what.");
        Counted empty = new Counted();
        Counted full = fullRing();
        full.clear(false);
        full.decree(0);
        for (int what : Bounds.outside(0, 6)) {
            due("empty: count(" + what + ")", NONE, empty.count(what));
            due("full: count(" + what + ")", NONE, full.count(what));
        }
    }
}
