import java.util.Random;

/** Runs in which several promises meet; every answer here was worked out by hand or follows from another one. */
public final class MeetingRunsTest {
    private static final int NONE = AdvanceBook.NONE;
    private static final int PAID = 0;
    private static final int HAS = 1;
    private static final int FAILS = 2;
    private static final int OWES = 3;
    private static final int DEBTOR = 0;
    private static final int CREDITOR = 1;
    private static final int TOLD = 2;
    private static final int RANK = 3;
    private static final int LEFT = 4;
    private static final int DAY = 5;
    private static final int COPY = 6;
    private static final int TOWNS_BY_CHANCE = 300;

    public static void main(String[] args) {
        toldTwiceAndHandedToAnHeir();
        triedBesideThenPutInForce();
        clearingStaysWhileAllElseChanges();
        endBehindClearingAndDecree();
        allOfItInOneRun();
        for (int seed = 0; seed < TOWNS_BY_CHANCE; seed++) {
            besideIsAsInForce(seed);
            endIsTheClearing(seed);
            heirHasBoth(seed);
            copiesChangeNothing(seed);
        }
        Due.finish("MeetingRunsTest");
    }

    private static void due(String call, long want, long got) {
        Due.due(call, want, got);
    }

    private static void papers(Counted book, String name, int what, int... want) {
        for (int paper = 0; paper < want.length; paper++) {
            due(name + " of paper " + paper, want[paper], book.look(paper, what));
        }
        due(name + " behind the last paper", Due.NO_PAPER, book.look(want.length, what));
    }

    private static void nets(Counted book, int... want) {
        for (int man = 0; man < want.length; man++) {
            due("net(" + man + ")", want[man], book.net(man));
        }
    }

    private static void purses(Counted book, int... want) {
        for (int man = 0; man < want.length; man++) {
            due("purse(" + man + ")", want[man], book.purse(man));
        }
    }

    private static void move(Counted book, int k, int payer, int getter, int coins) {
        due("payer of move " + k, payer, book.move(k, 0));
        due("getter of move " + k, getter, book.move(k, 1));
        due("coins of move " + k, coins, book.move(k, 2));
    }

    private static void cleared(Counted book, String name, int what, int... want) {
        for (int k = 0; k < want.length; k++) {
            due(name + ": cleared(" + what + ", " + k + ")", want[k], book.cleared(what, k));
        }
        due(name + ": cleared(" + what + ", " + want.length + ")", NONE, book.cleared(what, want.length));
    }

    // ---- papers told twice and handed to an heir

    private static void toldTwiceAndHandedToAnHeir() {
        Due.says("Terms: (all as they were told) is a COPY .. An HEIR: a man's PURSE and PAPERS go to another one");
        Counted book = Counted.town(20, 5, 0, 0);
        book.paper(0, 1, 30, 1);
        book.paper(0, 1, 30, 1);
        book.paper(1, 0, 12, 0);
        book.paper(2, 0, 7, 2);
        book.paper(0, 2, 7, 2);
        book.paper(2, 0, 7, 2);
        papers(book, "COPY", COPY, 0, 1, 0, 0, 0, 1);
        papers(book, "LEFT", LEFT, 30, 0, 12, 7, 7, 0);
        nets(book, -18, 18, 0, 0);

        Due.due("heir(0, 3)", true, book.heir(0, 3));
        papers(book, "debtor", DEBTOR, 3, 3, 1, 2, 3, 2);
        papers(book, "creditor", CREDITOR, 1, 1, 3, 3, 2, 3);
        papers(book, "LEFT", LEFT, 30, 0, 12, 7, 7, 0);
        purses(book, 0, 5, 0, 20);
        nets(book, 0, 18, 0, -18);
        due("thread()", 18, book.thread());
        move(book, 0, 3, 1, 18);

        due("told again as the first man's", 6, book.paper(0, 1, 30, 1));
        due("told as the heir's for the first time", 7, book.paper(3, 1, 30, 1));
        due("told as the heir's again", 8, book.paper(3, 1, 30, 1));
        papers(book, "COPY", COPY, 0, 1, 0, 0, 0, 1, 1, 0, 1);
        papers(book, "LEFT", LEFT, 30, 0, 12, 7, 7, 0, 0, 30, 0);
        due("LEFT in all", 86, book.count(3));

        heirOfTheHeir(book);
    }

    private static void heirOfTheHeir(Counted book) {
        Due.says("Terms: of PAPERS between the two nothing is LEFT any more; he himself has 0 then and may have new ones");
        Due.due("heir(3, 1)", true, book.heir(3, 1));
        papers(book, "debtor", DEBTOR, 1, 1, 1, 2, 1, 2, 0, 1, 1);
        papers(book, "creditor", CREDITOR, 1, 1, 1, 1, 2, 1, 1, 1, 1);
        papers(book, "LEFT", LEFT, 0, 0, 0, 7, 7, 0, 0, 0, 0);
        papers(book, "coins as told", TOLD, 30, 30, 12, 7, 7, 7, 30, 30, 30);
        purses(book, 0, 25, 0, 0);
        nets(book, 0, 0, 0, 0);
        due("thread()", 0, book.thread());
        due("move(0, 0)", NONE, book.move(0, 0));
        due("clear(false)", 0, book.clear(false));
        cleared(book, "a ring of two", PAID, 0, 0, 0, 7, 7, 0, 0, 0, 0);
        cleared(book, "a ring of two", HAS, 0, 25, 0, 0);

        due("pass(1)", 1, book.pass(1));
        due("on another DAY", 9, book.paper(0, 1, 30, 1));
        due("is no COPY", 0, book.look(9, COPY));
        due("all is LEFT of it", 30, book.look(9, LEFT));
        Due.due("heir(0, 1)", true, book.heir(0, 1));
        due("between the two", 0, book.look(9, LEFT));
        due("end()", 14, book.end());
        papers(book, "LEFT", LEFT, 0, 0, 0, 0, 0, 0, 0, 0, 0, 0);
        papers(book, "COPY", COPY, 0, 1, 0, 0, 0, 1, 1, 0, 1, 0);
        papers(book, "DAY", DAY, 0, 0, 0, 0, 0, 0, 0, 0, 0, 1);
        purses(book, 0, 25, 0, 0);
        Due.due("heir(1, 2)", true, book.heir(1, 2));
        papers(book, "debtor", DEBTOR, 2, 2, 2, 2, 2, 2, 2, 2, 2, 2);
        purses(book, 0, 0, 25, 0);
        due("who has nothing may owe", 10, book.paper(1, 2, 30, 1));
        due("and is told so for the first time that DAY", 30, book.look(10, LEFT));
    }

    // ---- a decree tried beside, then put in force

    private static Counted townOfDecrees() {
        Counted book = Counted.town(80, 10, 0, 40);
        book.paper(0, 1, 90, 0);
        book.paper(0, 2, 60, 1);
        book.paper(0, 2, 60, 1);
        book.paper(1, 2, 50, 2);
        book.pass(3);
        book.paper(2, 3, 70, 3);
        book.paper(3, 0, 45, 1);
        return book;
    }

    private static void triedBesideThenPutInForce() {
        Due.says("Terms: A DECREE may be tried beside, or put in FORCE: then it is so from now on.");
        Counted book = townOfDecrees();
        due("as things are", 1, book.clear(true));
        cleared(book, "as things are", PAID, 90, 35, 0, 50, 70, 45);
        cleared(book, "as things are", HAS, 0, 50, 15, 65);
        cleared(book, "as things are", OWES, 25, 0, 0, 0);

        due("LINES", 5, book.decree("cut 1 25;move 0 2;move 2 0;spare 20;before 3;"));
        due("clear(true)", 1, book.clear(true));
        isClearedByDecree(book, "tried beside");
        papers(book, "LEFT", LEFT, 90, 60, 0, 50, 70, 45);
        papers(book, "RANK", RANK, 0, 1, 1, 2, 3, 1);
        nets(book, -105, 40, 40, 25);

        due("one with a FAULT", NONE, book.decree("cut 0 5;cut 0"));
        due("its FAULT", 3, book.fault(0));
        due("its place", 12, book.fault(1));
        due("the one at hand stays", 5, book.count(6));
        due("enact()", 10, book.enact());
        papers(book, "LEFT", LEFT, 90, 50, 0, 50, 70, 45);
        papers(book, "RANK", RANK, 2, 1, 1, 0, 3, 1);
        nets(book, -95, 40, 30, 25);
        isClearedByDecree(book, "at hand still");
        due("clear(false)", 1, book.clear(false));
        isClearedByDecree(book, "in force");
        due("clear(true) without one", 1, book.clear(true));
        isClearedByDecree(book, "in force, beside");

        anotherDecreeAndTheEnd(book);
    }

    private static void isClearedByDecree(Counted book, String name) {
        cleared(book, name, PAID, 75, 50, 0, 50, 70, 45);
        cleared(book, name, HAS, 0, 35, 30, 65);
        cleared(book, name, FAILS, 1, 0, 0, 0);
        cleared(book, name, OWES, 15, 0, 0, 0);
        due(name + ": ROUNDS", 1, book.count(5));
    }

    private static void anotherDecreeAndTheEnd(Counted book) {
        Due.says("17: The DECREE at hand is put in FORCE. 18: The season's END .. (The CLEARING at hand stays.)");
        due("by the RANKS as they are now", 3, book.decree("move 2 1;cut 2 100;spare 80;"));
        due("clear(true)", 1, book.clear(true));
        cleared(book, "of one RANK by numbers", PAID, 80, 45, 0, 50, 70, 45);
        due("enact()", 10, book.enact());
        due("enact() again", NONE, book.enact());
        papers(book, "RANK", RANK, 1, 1, 1, 0, 3, 1);
        due("end()", 80 + 45 + 50 + 70 + 45, book.end());
        papers(book, "LEFT", LEFT, 0, 5, 0, 0, 0, 0);
        purses(book, 0, 40, 25, 65);
        due("TODAY", 4, book.count(2));
        cleared(book, "the CLEARING at hand stays", PAID, 80, 45, 0, 50, 70, 45);
        due("nothing more can be paid", 0, book.end());
        due("boat()", 5, book.boat(5, 0, 1, 0));
        due("then the rest is", 5, book.end());
        due("LEFT in all", 0, book.count(3));
        due("TODAY", 6, book.count(2));
        purses(book, 0, 40, 30, 65);
    }

    // ---- a CLEARING at hand that stays as it was

    private static void clearingStaysWhileAllElseChanges() {
        Due.says("15: It is the one at hand (as it was then). 16: NONE: .. no such PAPER (man) then");
        Counted book = Counted.town(30, 0, 4);
        book.paper(0, 1, 50, 0);
        book.paper(1, 2, 20, 0);
        book.paper(2, 0, 3, 1);
        due("clear(false)", 1, book.clear(false));
        stays(book, "at first");
        due("man(7)", 3, book.man(7));
        stays(book, "behind a man");
        due("paper()", 3, book.paper(3, 0, 9, 2));
        stays(book, "behind a paper");
        due("paper()", 4, book.paper(3, 0, 9, 2));
        stays(book, "behind a copy");
        due("pass(10)", 10, book.pass(10));
        stays(book, "behind ten days");
        due("boat()", 25, book.boat(100, 1, 2, 1 | 4));
        stays(book, "behind a boat");
        purses(book, 55, 50, 29, 7);
        Due.due("heir(0, 2)", true, book.heir(0, 2));
        stays(book, "behind an heir");
        due("a DECREE", 2, book.decree("cut 0 50;move 2 0;"));
        stays(book, "behind a decree");
        due("a FAULT", NONE, book.decree("cut 0 50;;"));
        stays(book, "behind a fault");
        due("enact()", 25 + 10, book.enact());
        stays(book, "behind a decree in force");
        due("thread()", 15, book.thread());
        stays(book, "behind a thread");
        due("end()", 25 + 10 + 7, book.end());
        stays(book, "behind the season's end");
        purses(book, 0, 65, 76, 0);
        due("pass(-1)", NONE, book.pass(-1));
        due("end() again", 0, book.end());
        stays(book, "behind another end");
        theNextClearing(book);
    }

    private static void stays(Counted book, String when) {
        cleared(book, when, PAID, 33, 20, 3);
        cleared(book, when, HAS, 0, 13, 21);
        cleared(book, when, FAILS, 1, 0, 0);
        cleared(book, when, OWES, 17, 0, 0);
        due(when + ": ROUNDS", 1, book.count(5));
    }

    private static void theNextClearing(Counted book) {
        due("the next one", 1, book.clear(true));
        cleared(book, "the next one", PAID, 0, 0, 0, 0, 0);
        cleared(book, "the next one", HAS, 0, 65, 76, 0);
        cleared(book, "the next one", FAILS, 0, 0, 0, 1);
        cleared(book, "the next one", OWES, 0, 0, 0, 2);
        due("its ROUNDS", 1, book.count(5));
    }

    // ---- the season's end behind both

    private static void endBehindClearingAndDecree() {
        Due.says("18: The season's END: how many coins were paid .. (The CLEARING at hand stays.)");
        Counted book = Counted.town(60, 0, 0);
        book.paper(0, 1, 80, 0);
        book.paper(1, 2, 100, 1);
        due("LINES", 2, book.decree("cut 0 50;cut 1 10;"));
        due("clear(true)", 1, book.clear(true));
        due("end() as things are, not by the DECREE", 60 + 60, book.end());
        cleared(book, "at hand", PAID, 40, 40);
        cleared(book, "at hand", HAS, 20, 0, 40);
        cleared(book, "at hand", FAILS, 0, 1, 0);
        cleared(book, "at hand", OWES, 0, 50, 0);
        due("ROUNDS", 1, book.count(5));
        due("LINES", 2, book.count(6));
        papers(book, "LEFT", LEFT, 20, 40);
        purses(book, 0, 0, 60);

        due("clear(true) of what is LEFT now", 2, book.clear(true));
        cleared(book, "behind the end", PAID, 0, 0);
        cleared(book, "behind the end", FAILS, 1, 1, 0);
        cleared(book, "behind the end", OWES, 10, 36, 0);
        due("ROUNDS", 2, book.count(5));
        due("enact()", 10 + 4, book.enact());
        Due.due("heir(2, 0)", true, book.heir(2, 0));
        nets(book, 26, -26, 0);
        move(book, 0, 1, 0, 26);
        due("clear(false)", 1, book.clear(false));
        cleared(book, "by the heir's purse", PAID, 10, 10);
        cleared(book, "by the heir's purse", HAS, 60, 0, 0);
        due("end()", 20, book.end());
        papers(book, "LEFT", LEFT, 0, 26);
        purses(book, 60, 0, 0);
        due("TODAY", 2, book.count(2));
        due("pass(997)", 999, book.pass(997));
        due("end() on the last DAY", NONE, book.end());
        papers(book, "LEFT", LEFT, 0, 26);
        due("ROUNDS", 1, book.count(5));
    }

    // ---- all of it in one run

    private static void allOfItInOneRun() {
        Due.says("Told twice, handed to an heir, tried beside, put in force, the season's end, then all of it again");
        Counted book = Counted.town(12, 0, 3, 0);
        book.paper(0, 1, 20, 3);
        book.paper(0, 1, 20, 3);
        book.paper(1, 2, 15, 0);
        book.decree("cut 3 50;move 3 0;spare 4;");
        due("tried beside", 1, book.clear(true));
        cleared(book, "20 by half of 16", PAID, 12, 0, 12);
        Due.due("heir(1, 3)", true, book.heir(1, 3));
        due("told twice behind the heir", 3, book.paper(0, 1, 20, 3));
        due("tried beside again", 1, book.clear(true));
        cleared(book, "to the heir", PAID, 12, 0, 12, 0);
        cleared(book, "the heir's", OWES, 0, 0, 0, 3);
        due("put in FORCE, of COPIES nothing", 8, book.enact());
        papers(book, "RANK", RANK, 0, 0, 0, 0);
        papers(book, "LEFT", LEFT, 12, 0, 15, 0);
        due("a RANK by force is not as it was told", 4, book.paper(0, 1, 20, 0));
        due("so it is no COPY", 20, book.look(4, LEFT));
        due("as told ahead of the move", 5, book.paper(0, 1, 20, 3));
        due("it is one", 0, book.look(5, LEFT));
        Due.due("heir(1, 3)", true, book.heir(1, 3));
        due("end()", 12 + 0 + 12, book.end());
        papers(book, "LEFT", LEFT, 0, 0, 3, 0, 20, 0);
        cleared(book, "the CLEARING at hand stays", PAID, 12, 0, 12, 0);
        purses(book, 0, 0, 15, 0);
        nets(book, -20, 0, 3, 17);
        due("thread()", 20, book.thread());
        move(book, 0, 0, 2, 3);
        move(book, 1, 0, 3, 17);
        due("no more", NONE, book.move(2, 0));
        book.boat(21, 0, 2, 8);
        purses(book, 14, 0, 15, 7);
        due("end()", 14 + 3, book.end());
        purses(book, 0, 0, 18, 18);
        Due.due("heir(3, 0)", true, book.heir(3, 0));
        due("what was between the two", 0, book.count(3));
        purses(book, 18, 0, 18, 0);
        due("all PURSES", 36, book.count(4));
    }

    // ---- what must be the same in any town

    private static Counted townByChance(Random chance, boolean withCopies) {
        Counted book = new Counted();
        int men = 2 + chance.nextInt(9);
        for (int man = 0; man < men; man++) {
            book.man(chance.nextInt(3) == 0 ? 0 : chance.nextInt(60));
        }
        int papers = 1 + chance.nextInt(20);
        for (int paper = 0; paper < papers; paper++) {
            int debtor = chance.nextInt(men);
            int creditor = (debtor + 1 + chance.nextInt(men - 1)) % men;
            int coins = 1 + chance.nextInt(90);
            int rank = chance.nextInt(4);
            book.paper(debtor, creditor, coins, rank);
            if (withCopies) {
                book.paper(debtor, creditor, coins, rank);
            }
            // Each on its own DAY, so that none is a COPY by chance.
            book.pass(1);
        }
        return book;
    }

    private static String textByChance(Random chance) {
        StringBuilder text = new StringBuilder();
        for (int rank = 0; rank < 4; rank++) {
            if (chance.nextBoolean()) {
                text.append("cut ").append(rank).append(' ').append(chance.nextInt(101)).append(';');
            }
            if (chance.nextBoolean()) {
                text.append("move ").append(rank).append(' ').append(chance.nextInt(4)).append(';');
            }
        }
        if (chance.nextBoolean()) {
            text.append("spare ").append(chance.nextInt(40)).append(';');
        }
        if (chance.nextBoolean()) {
            text.append("before ").append(chance.nextInt(20)).append(';');
        }
        return text.toString();
    }

    /** All that the CLEARING at hand tells, and with it what clear() answered. */
    private static int[] wholeClearing(Counted book, int fails) {
        int papers = book.count(1);
        int men = book.count(0);
        int[] all = new int[papers + 3 * men + 2];
        int at = 0;
        for (int paper = 0; paper < papers; paper++) {
            all[at++] = book.cleared(PAID, paper);
        }
        for (int man = 0; man < men; man++) {
            all[at++] = book.cleared(HAS, man);
            all[at++] = book.cleared(FAILS, man);
            all[at++] = book.cleared(OWES, man);
        }
        all[at++] = book.count(5);
        all[at++] = fails;
        return all;
    }

    private static void same(String name, int[] want, int[] got) {
        due(name + ": how many", want.length, got.length);
        for (int at = 0; at < Math.min(want.length, got.length); at++) {
            due(name + ": answer " + at, want[at], got[at]);
        }
    }

    private static void besideIsAsInForce(int seed) {
        Due.says("Terms: tried beside, or put in FORCE: then it is so from now on (town " + seed + ")");
        Random chance = new Random(seed);
        Counted book = townByChance(chance, seed % 2 == 0);
        String text = textByChance(chance);
        book.decree(text);
        int left = book.count(3);
        int[] beside = wholeClearing(book, book.clear(true));
        due("LEFT stays", left, book.count(3));
        int less = book.enact();
        due("LEFT in all less", left - less, book.count(3));
        same(text, beside, wholeClearing(book, book.clear(false)));
        same(text, beside, wholeClearing(book, book.clear(true)));
    }

    private static void endIsTheClearing(int seed) {
        Due.says("Terms: The season's END: it is done: PURSES are what is left behind it (town " + seed + ")");
        Counted book = townByChance(new Random(seed), false);
        int fails = book.clear(false);
        int[] clearing = wholeClearing(book, fails);
        int papers = book.count(1);
        int men = book.count(0);
        int coins = book.count(4);
        int today = book.count(2);
        int paid = 0;
        int[] left = new int[papers];
        for (int paper = 0; paper < papers; paper++) {
            left[paper] = (int) book.look(paper, LEFT) - clearing[paper];
            paid += clearing[paper];
        }
        due("end()", paid, book.end());
        papers(book, "LEFT", LEFT, left);
        for (int man = 0; man < men; man++) {
            due("purse(" + man + ")", clearing[papers + 3 * man], book.purse(man));
        }
        due("all PURSES", coins, book.count(4));
        due("TODAY", today + 1, book.count(2));
        same("the CLEARING at hand stays", clearing, wholeClearing(book, fails));
        due("no man who FAILS has a coin, so nothing more is paid", 0, book.end());
    }

    private static void heirHasBoth(int seed) {
        Due.says("Terms: An HEIR: a man's PURSE and PAPERS go to another one (town " + seed + ")");
        Random chance = new Random(seed);
        Counted book = townByChance(chance, seed % 2 == 0);
        int men = book.count(0);
        int man = chance.nextInt(men);
        int heir = (man + 1 + chance.nextInt(men - 1)) % men;
        int net = book.net(man) + book.net(heir);
        int purse = book.purse(man) + book.purse(heir);
        int between = 0;
        for (int paper = 0; paper < book.count(1); paper++) {
            long debtor = book.look(paper, DEBTOR);
            long creditor = book.look(paper, CREDITOR);
            if (debtor == man && creditor == heir || debtor == heir && creditor == man) {
                between += (int) book.look(paper, LEFT);
            }
        }
        int left = book.count(3);
        Due.due("heir()", true, book.heir(man, heir));
        due("LEFT in all", left - between, book.count(3));
        due("the heir's NET", net, book.net(heir));
        due("the heir's PURSE", purse, book.purse(heir));
        due("his own NET", 0, book.net(man));
        due("his own PURSE", 0, book.purse(man));
        book.clear(false);
        due("he pays nothing and gets nothing", 0, book.cleared(HAS, man));
        due("and owes nothing", 0, book.cleared(OWES, man));
    }

    private static void copiesChangeNothing(int seed) {
        Due.says("Terms: is a COPY: nothing is LEFT of it, ever. (town " + seed + ")");
        Counted plain = townByChance(new Random(seed), false);
        Counted twice = townByChance(new Random(seed), true);
        String text = textByChance(new Random(seed + 1));
        plain.decree(text);
        twice.decree(text);
        due("clear(true)", plain.clear(true), twice.clear(true));
        for (int man = 0; man < plain.count(0); man++) {
            due("what man " + man + " has", plain.cleared(HAS, man), twice.cleared(HAS, man));
            due("where man " + man + " FAILS", plain.cleared(FAILS, man), twice.cleared(FAILS, man));
        }
        due("enact()", plain.enact(), twice.enact());
        due("thread()", plain.thread(), twice.thread());
        due("end()", plain.end(), twice.end());
        for (int paper = 0; paper < plain.count(1); paper++) {
            due("LEFT of paper " + paper, plain.look(paper, LEFT), twice.look(2 * paper, LEFT));
            due("RANK of paper " + paper, plain.look(paper, RANK), twice.look(2 * paper, RANK));
            due("LEFT of its COPY", 0, twice.look(2 * paper + 1, LEFT));
        }
    }
}
