/** Each promise by hand: ordinary inputs, the edges that the document names, wrong inputs. */
public final class PromisesTest {
    private static final int NONE = AdvanceBook.NONE;
    private static final int MAX = Integer.MAX_VALUE;
    private static final int MIN = Integer.MIN_VALUE;
    private static final long NO_PAPER = Due.NO_PAPER;
    private static final long NO_WHAT = Due.NO_WHAT;

    public static void main(String[] args) {
        promise1New();
        promise2Feed();
        promise3Man();
        promise4Paper();
        promise4Copies();
        promise5Look();
        promise6Pass();
        promise7Purse();
        promise8Net();
        promise9Thread();
        promise10Move();
        promise11Boat();
        promise12Heir();
        promise12HeirAndOthers();
        promise13Decree();
        promise13Tape();
        promise14Faults();
        promise15Clear();
        promise15Beside();
        promise15LongestRounds();
        promise16Cleared();
        promise17Enact();
        promise17Effects();
        promise18End();
        promise19Count();
        fullTown();
        Due.finish("PromisesTest");
    }

    private static void due(String call, long want, long got) {
        Due.due(call, want, got);
    }

    private static void promise1New() {
        Counted book = new Counted();
        due("1 MEN", 0, book.count(0));
        due("1 PAPERS", 0, book.count(1));
        due("1 TODAY", 0, book.count(2));
        due("1 LEFT", 0, book.count(3));
        due("1 PURSES", 0, book.count(4));
        due("1 ROUNDS", NONE, book.count(5));
        due("1 LINES", NONE, book.count(6));
        due("1 TAPE", -2, book.decree(1));
        due("1 first feed", 20, book.feed(0, 0, 0, 0, 0));
        Counted other = Counted.town(7);
        due("1 objects are apart", 0, book.count(0));
        due("1 the other one", 1, other.count(0));
    }

    private static void promise2Feed() {
        Counted book = new Counted();
        // "cut 0 100;spare 999;" is just twenty bytes
        due("2 feed", 20, book.feedText("cut 0 100;spare 999;"));
        due("2 feed again", 40, book.feedText("before 0;  move 3 0;"));
        due("2 order of bytes", 4, book.decree(40));
        for (int fed = 20; fed <= 300; fed += 20) {
            due("2 feed to " + fed, fed, book.feed(0x3b202020, 0x20202020, 0x20202020, -1, -1));
        }
        due("2 feed beyond 300", NONE, book.feed(0, 0, 0, 0, 0));
        due("2 nothing came", -2, book.decree(301));
        due("2 all 300", NONE, book.decree(300));
        due("2 first byte", 0, book.fault(1));
        due("2 empty again", 20, book.feed(-1, -1, -1, -1, -1));
        Counted high = new Counted();
        // 'c' + 128 must not pass for 'c'
        high.feed(0xe3757420, 0x30203130, 0x3b202020, 0x20202020, 0x20202020);
        due("2 high bit", NONE, high.decree(20));
        due("2 high bit's place", 0, high.fault(1));
    }

    private static void promise3Man() {
        Counted book = new Counted();
        due("3 purse below", NONE, book.man(-1));
        due("3 purse beyond", NONE, book.man(100000));
        due("3 purse MIN", NONE, book.man(MIN));
        due("3 purse MAX", NONE, book.man(MAX));
        due("3 none came", 0, book.count(0));
        due("3 least purse", 0, book.man(0));
        due("3 most purse", 1, book.man(99999));
        for (int man = 2; man < 10; man++) {
            due("3 man " + man, man, book.man(man));
        }
        due("3 an eleventh", NONE, book.man(1));
        due("3 ten", 10, book.count(0));
        due("3 purses", 99999 + 44, book.count(4));
    }

    private static void promise4Paper() {
        Counted book = Counted.town(0, 0);
        due("4 no debtor", NONE, book.paper(2, 0, 5, 0));
        due("4 no creditor", NONE, book.paper(0, 2, 5, 0));
        due("4 debtor -1", NONE, book.paper(-1, 0, 5, 0));
        due("4 creditor -1", NONE, book.paper(0, -1, 5, 0));
        due("4 the same", NONE, book.paper(1, 1, 5, 0));
        due("4 coins 0", NONE, book.paper(0, 1, 0, 0));
        due("4 coins -1", NONE, book.paper(0, 1, -1, 0));
        due("4 coins 1000", NONE, book.paper(0, 1, 1000, 0));
        due("4 rank -1", NONE, book.paper(0, 1, 5, -1));
        due("4 rank 4", NONE, book.paper(0, 1, 5, 4));
        due("4 extremes", NONE, book.paper(MIN, MAX, MAX, MIN));
        due("4 none came", 0, book.count(1));
        due("4 least", 0, book.paper(0, 1, 1, 0));
        due("4 most", 1, book.paper(1, 0, 999, 3));
        due("4 left", 1000, book.count(3));
        for (int paper = 2; paper < 40; paper++) {
            due("4 paper " + paper, paper, book.paper(0, 1, paper, 0));
        }
        due("4 a 41st", NONE, book.paper(0, 1, 500, 0));
        due("4 forty", 40, book.count(1));
    }

    private static void promise4Copies() {
        Counted book = Counted.town(0, 0, 0);
        book.paper(0, 1, 30, 2);
        book.paper(0, 1, 30, 2);
        due("4 copy", 1, book.look(1, 6));
        due("4 nothing left of a copy", 0, book.look(1, 4));
        due("4 coins of a copy as told", 30, book.look(1, 2));
        book.paper(0, 1, 30, 2);
        due("4 copy of a copy", 1, book.look(2, 6));
        book.paper(0, 2, 30, 2);
        due("4 other creditor", 0, book.look(3, 6));
        book.paper(2, 1, 30, 2);
        due("4 other debtor", 0, book.look(4, 6));
        book.paper(0, 1, 31, 2);
        due("4 other coins", 0, book.look(5, 6));
        book.paper(0, 1, 30, 3);
        due("4 other rank", 0, book.look(6, 6));
        book.paper(1, 0, 30, 2);
        due("4 the other way", 0, book.look(7, 6));
        book.pass(1);
        book.paper(0, 1, 30, 2);
        due("4 other day", 0, book.look(8, 6));
        due("4 left in all", 30 * 6 + 31, book.count(3));
        book.decree("move 2 0;");
        book.enact();
        book.paper(0, 1, 30, 2);
        due("4 copy by the rank as told", 1, book.look(9, 6));
        book.paper(0, 1, 30, 0);
        due("4 no copy by the rank as it is", 0, book.look(10, 6));
        book.heir(0, 2);
        book.paper(0, 1, 30, 2);
        due("4 copy by the debtor as told", 1, book.look(11, 6));
        book.paper(2, 1, 30, 0);
        due("4 no copy by the debtor as he is", 0, book.look(12, 6));
        book.end();
        book.paper(0, 1, 30, 2);
        due("4 no copy behind the end", 0, book.look(13, 6));
    }

    private static void promise5Look() {
        Counted book = Counted.town(10, 0);
        due("5 no paper yet", NO_PAPER, book.look(0, 0));
        book.pass(3);
        book.paper(1, 0, 77, 2);
        due("5 debtor", 1, book.look(0, 0));
        due("5 creditor", 0, book.look(0, 1));
        due("5 coins", 77, book.look(0, 2));
        due("5 rank", 2, book.look(0, 3));
        due("5 left", 77, book.look(0, 4));
        due("5 day", 3, book.look(0, 5));
        due("5 copy", 0, book.look(0, 6));
        due("5 what 7", NO_WHAT, book.look(0, 7));
        due("5 what -1", NO_WHAT, book.look(0, -1));
        due("5 what MIN", NO_WHAT, book.look(0, MIN));
        due("5 paper 1", NO_PAPER, book.look(1, 0));
        due("5 paper -1", NO_PAPER, book.look(-1, 0));
        due("5 paper MAX", NO_PAPER, book.look(MAX, 0));
        due("5 paper first", NO_PAPER, book.look(1, 7));
        book.decree("cut 2 10;move 2 3;");
        book.enact();
        due("5 coins as told", 77, book.look(0, 2));
        due("5 rank as it is now", 3, book.look(0, 3));
        due("5 left after a cut", 70, book.look(0, 4));
    }

    private static void promise6Pass() {
        Counted book = new Counted();
        due("6 none", 0, book.pass(0));
        due("6 five", 5, book.pass(5));
        due("6 below", NONE, book.pass(-1));
        due("6 MIN", NONE, book.pass(MIN));
        due("6 MAX", NONE, book.pass(MAX));
        due("6 one too far", NONE, book.pass(995));
        due("6 nothing happened", 5, book.count(2));
        due("6 to the last", 999, book.pass(994));
        due("6 stays", 999, book.pass(0));
        due("6 beyond", NONE, book.pass(1));
        due("6 still the last", 999, book.count(2));
    }

    private static void promise7Purse() {
        Counted book = Counted.town(12, 99999);
        due("7 first", 12, book.purse(0));
        due("7 second", 99999, book.purse(1));
        due("7 third", NONE, book.purse(2));
        due("7 -1", NONE, book.purse(-1));
        due("7 MAX", NONE, book.purse(MAX));
    }

    private static void promise8Net() {
        Counted book = Counted.town(500, 500, 500);
        book.paper(0, 1, 100, 0);
        book.paper(2, 1, 50, 3);
        book.paper(1, 0, 30, 1);
        book.paper(1, 0, 30, 1);
        due("8 net 0", -70, book.net(0));
        due("8 net 1", 120, book.net(1));
        due("8 net 2", -50, book.net(2));
        due("8 no man", MIN, book.net(3));
        due("8 man -1", MIN, book.net(-1));
        book.decree("cut 0 50;");
        due("8 a decree at hand is not in force", -70, book.net(0));
        book.enact();
        due("8 of what is left", -20, book.net(0));
    }

    private static void promise9Thread() {
        Counted book = Counted.town(0, 0, 0, 0);
        due("9 none", 0, book.thread());
        book.paper(0, 1, 100, 0);
        book.paper(1, 2, 100, 0);
        due("9 a chain", 100, book.thread());
        book.paper(2, 0, 100, 0);
        due("9 a ring", 0, book.thread());
        book.paper(3, 0, 7, 0);
        book.paper(3, 1, 8, 0);
        due("9 two get", 15, book.thread());
    }

    private static void promise10Move() {
        Counted book = Counted.town(0, 0, 0, 0, 0);
        // nets: -10, +4, -5, +11, 0
        book.paper(0, 3, 10, 0);
        book.paper(2, 1, 4, 0);
        book.paper(2, 3, 1, 0);
        long[][] moves = {{0, 1, 4}, {0, 3, 6}, {2, 3, 5}};
        for (int k = 0; k < 3; k++) {
            for (int what = 0; what < 3; what++) {
                due("10 move " + k + " what " + what, moves[k][what], book.move(k, what));
            }
            due("10 what 3", NONE, book.move(k, 3));
            due("10 what -1", NONE, book.move(k, -1));
        }
        due("10 move 3", NONE, book.move(3, 0));
        due("10 move -1", NONE, book.move(-1, 2));
        due("10 move MAX", NONE, book.move(MAX, 2));
        due("10 thread", 15, book.thread());
        // nets: -10, -1, 0, +11, 0
        book.heir(2, 1);
        due("10 moves of the moment", 10, book.move(0, 2));
        due("10 who gets now", 3, book.move(0, 1));
        due("10 who pays second now", 1, book.move(1, 0));
        due("10 no third now", NONE, book.move(2, 0));
    }

    private static void promise11Boat() {
        Counted book = Counted.town(0, 0, 0);
        due("11 gain -1", NONE, book.boat(-1, 0, 1, 0));
        due("11 gain 10000", NONE, book.boat(10000, 0, 1, 0));
        due("11 captain 3", NONE, book.boat(10, 3, 1, 0));
        due("11 captain -1", NONE, book.boat(10, -1, 1, 0));
        due("11 captain 32", NONE, book.boat(10, 32, 1, 2));
        due("11 parts 0", NONE, book.boat(10, 0, 0, 0));
        due("11 parts 10", NONE, book.boat(10, 0, 10, 0));
        due("11 captain in the crew", NONE, book.boat(10, 1, 1, 3));
        due("11 crew of no men", NONE, book.boat(10, 0, 1, 8));
        due("11 crew below 0", NONE, book.boat(10, 0, 1, -2));
        due("11 nothing happened", 0, book.count(4));
        due("11 even", 20, book.boat(100, 1, 3, 5));
        due("11 captain", 60, book.purse(1));
        due("11 crew", 20, book.purse(0));
        due("11 crew too", 20, book.purse(2));
        due("11 remains", 3, book.boat(11, 0, 2, 2));
        due("11 captain has the rest", 28, book.purse(0));
        due("11 crew's part", 63, book.purse(1));
        due("11 no crew", 1111, book.boat(9999, 2, 9, 0));
        due("11 all his", 20 + 9999, book.purse(2));
        due("11 no gain", 0, book.boat(0, 0, 9, 6));
        due("11 too little for parts", 0, book.boat(10, 0, 9, 6));
        due("11 all to the captain", 38, book.purse(0));
        Counted rich = Counted.town(99999);
        due("11 beyond a first purse", 9999, rich.boat(9999, 0, 1, 0));
        due("11 sum", 109998, rich.purse(0));
        due("11 no men", NONE, new Counted().boat(1, 0, 1, 0));
    }

    private static void promise12Heir() {
        Counted book = Counted.town(10, 20, 30);
        book.paper(0, 1, 5, 0);
        book.paper(1, 0, 6, 0);
        book.paper(0, 2, 7, 1);
        book.paper(2, 0, 8, 2);
        Due.due("12 the same", false, book.heir(1, 1));
        Due.due("12 no man", false, book.heir(3, 1));
        Due.due("12 no heir", false, book.heir(1, 3));
        Due.due("12 -1", false, book.heir(-1, 0));
        Due.due("12 heir MIN", false, book.heir(0, MIN));
        due("12 nothing happened", 26, book.count(3));
        Due.due("12 heir", true, book.heir(0, 1));
        due("12 his purse", 0, book.purse(0));
        due("12 heir's purse", 30, book.purse(1));
        due("12 between them", 0, book.look(0, 4));
        due("12 between them back", 0, book.look(1, 4));
        due("12 debtor", 1, book.look(2, 0));
        due("12 creditor", 2, book.look(2, 1));
        due("12 left to pay", 7, book.look(2, 4));
        due("12 debtor of the other", 2, book.look(3, 0));
        due("12 creditor goes too", 1, book.look(3, 1));
        due("12 left to get", 8, book.look(3, 4));
        due("12 papers between have the heir too", 1, book.look(0, 0));
        due("12 on both sides", 1, book.look(1, 1));
        due("12 net of the man", 0, book.net(0));
        due("12 net of the heir", 1, book.net(1));
    }

    private static void promise12HeirAndOthers() {
        Counted book = Counted.town(10, 20, 30);
        book.paper(0, 2, 7, 0);
        book.heir(0, 1);
        due("12 may have new ones", 1, book.paper(0, 1, 9, 0));
        due("12 new one's left", 9, book.look(1, 4));
        due("12 boat for him", 4, book.boat(4, 0, 1, 0));
        due("12 new purse", 4, book.purse(0));
        book.heir(1, 2);
        due("12 heir of the heir", 0, book.look(0, 4));
        due("12 new paper's creditor", 2, book.look(1, 1));
        due("12 purse goes on", 60, book.purse(2));
        due("12 clear with papers to oneself", 1, book.clear(false));
        due("12 paid", 4, book.cleared(0, 1));
    }

    private static void decreeIs(String text, int want) {
        Counted book = new Counted();
        due("13 decree(" + text + ")", want, book.decree(text));
        due("14 no fault(" + text + ")", 0, book.fault(0));
        due("14 no place(" + text + ")", NONE, book.fault(1));
        due("19 lines(" + text + ")", want, book.count(6));
    }

    private static void promise13Decree() {
        decreeIs("", 0);
        decreeIs(" \n ", 0);
        decreeIs("cut 0 0;", 1);
        decreeIs("cut 3 100;", 1);
        decreeIs("cut3 100;", 1);
        decreeIs(" cut\n3\n\n100 ; ", 1);
        decreeIs("cut 003 0000000000000000000000000100;", 1);
        decreeIs("move 3 3;", 1);
        decreeIs("move0 3;cut0 7;", 2);
        decreeIs("spare 0;before 0;", 2);
        decreeIs("before999;spare999;", 2);
        decreeIs("cut 0 1;cut 1 1;cut 2 1;cut 3 1;move 0 1;move 1 1;move 2 1;move 3 1;"
                + "spare 5;before 6;", 10);
    }

    private static void promise13Tape() {
        Counted book = new Counted();
        due("13 below 0", -2, book.decree(-1));
        due("13 MIN", -2, book.decree(MIN));
        due("13 MAX", -2, book.decree(MAX));
        book.feedText("cut 0 5;cut 0 6;");
        due("13 too many", -2, book.decree(21));
        due("13 none at hand", NONE, book.count(6));
        due("13 the tape stays", 40, book.feed(0, 0, 0, 0, 0));
        due("13 the first ones alone", 1, book.decree(8));
        due("13 the tape is empty", -2, book.decree(1));
        book.feed(-1, -1, -1, -1, -1);
        due("13 fault", NONE, book.decree(3));
        due("13 the one at hand stays", 1, book.count(6));
        due("13 empty with a fault too", -2, book.decree(1));
        due("14 -2 leaves the fault", 1, book.fault(0));
        due("14 -2 leaves the place", 0, book.fault(1));
        due("13 an empty one", 0, book.decree(0));
        due("13 takes its place", 0, book.count(6));
        due("14 the latest", 0, book.fault(0));
        book.man(9);
        book.man(0);
        book.paper(0, 1, 10, 0);
        book.decree("cut 0 50;");
        book.decree("cut 0 90;cut 0 90;");
        due("13 a draft with a fault is nothing", 0, book.clear(true));
        due("13 by the one at hand", 5, book.cleared(0, 0));
        book.decree("");
        due("13 an empty one cuts nothing", 1, book.clear(true));
    }

    private static void faultIs(String text, int fault, int place) {
        Counted book = new Counted();
        due("13 decree(" + text + ")", NONE, book.decree(text));
        due("14 fault(" + text + ")", fault, book.fault(0));
        due("14 place(" + text + ")", place, book.fault(1));
        due("13 no decree(" + text + ")", NONE, book.count(6));
    }

    private static void promise14Faults() {
        Counted book = new Counted();
        due("14 none yet", 0, book.fault(0));
        due("14 no place yet", NONE, book.fault(1));
        due("14 what 2", NONE, book.fault(2));
        due("14 what -1", NONE, book.fault(-1));
        faultIs("x", 1, 0);
        faultIs(";", 1, 0);
        faultIs("5", 1, 0);
        faultIs("  Cut 0 5;", 1, 2);
        faultIs("cuts 0 5;", 1, 0);
        faultIs("cu 0 5;", 1, 0);
        faultIs("moved 0 1;", 1, 0);
        faultIs("cutspare 5;", 1, 0);
        faultIs("\tcut 0 5;", 1, 0);
        faultIs("cut\r0 5;", 1, 3);
        faultIs("cut 0 5;;", 1, 8);
        faultIs("cut 0;", 1, 5);
        faultIs("cut ;", 1, 4);
        faultIs("cut cut", 1, 4);
        faultIs("cut -1 5;", 1, 4);
        faultIs("cut 0 5 5;", 1, 8);
        faultIs("cut 0 5 spare 3;", 1, 8);
        faultIs("cut 0 5x;", 1, 7);
        faultIs("cut 0 5%;", 1, 7);
        faultIs("cut", 1, 3);
        faultIs("cut 0", 1, 5);
        faultIs("cut 0 ", 1, 6);
        faultIs("cut 0 5", 1, 7);
        faultIs("cut 0 5 \n ", 1, 10);
        faultIs("spare 5;before", 1, 14);
        faultIs("move 1 spare", 1, 7);
        faultIs("spare spare", 1, 6);
        faultIs("cut 4 5;", 2, 4);
        faultIs("cut 05 101;", 2, 4);
        faultIs("cut 0 101;", 2, 6);
        faultIs("cut 0 101", 2, 6);
        faultIs("cut 00 5; move 4 0;", 2, 15);
        faultIs("move 0 4;", 2, 7);
        faultIs("spare 1000;", 2, 6);
        faultIs("before 1000;", 2, 7);
        faultIs("spare 9990;", 2, 6);
        faultIs("before 99900;", 2, 7);
        faultIs("before 4294967296;", 2, 7);
        faultIs("cut 4294967296 0;", 2, 4);
        faultIs("cut 18446744073709551617 0;", 2, 4);
        faultIs("cut 0 5;cut 0 101;", 3, 12);
        faultIs("cut 0 5;cut 00;", 3, 12);
        faultIs("cut 0 5;cut 1 5;cut 1 5;", 3, 20);
        faultIs("move 2 2;move 2 9;", 3, 14);
        faultIs("cut 0 0;cut 0 0;", 3, 12);
        faultIs("spare 5;spare", 3, 8);
        faultIs("spare 0;before 0;before 0;", 3, 17);
        faultIs("spare 0;cut 0 9; spare 1000;", 3, 17);
        faultIs("spare 5;cut spare 5;", 1, 12);
        decreeIs("move 2 1;move 1 2;cut 2 5;cut 1 5;", 4);
    }

    private static void promise15Clear() {
        Counted book = Counted.town(100, 0, 0);
        book.paper(0, 1, 60, 1);
        book.paper(0, 2, 60, 0);
        book.paper(0, 1, 10, 1);
        book.paper(1, 2, 50, 0);
        due("15 men that fail", 2, book.clear(false));
        due("15 in part", 40, book.cleared(0, 0));
        due("15 rank ahead", 60, book.cleared(0, 1));
        due("15 behind the part", 0, book.cleared(0, 2));
        due("15 out of what he gets", 40, book.cleared(0, 3));
        due("15 first", 1, book.cleared(2, 0));
        due("15 second", 2, book.cleared(2, 1));
        due("15 rounds", 2, book.count(5));
        Counted ring = Counted.town(0, 0, 0);
        ring.paper(0, 1, 500, 0);
        ring.paper(1, 2, 500, 0);
        ring.paper(2, 0, 500, 0);
        due("15 a ring pays itself", 0, ring.clear(false));
        due("15 in full", 500, ring.cleared(0, 2));
        due("15 no rounds", 0, ring.count(5));
        due("15 nobody", 0, new Counted().clear(true));
    }

    private static void promise15Beside() {
        Counted book = Counted.town(50, 0, 0);
        book.paper(0, 1, 80, 2);
        book.paper(0, 2, 40, 1);
        due("15 without a decree as false", 1, book.clear(true));
        due("15 by rank", 40, book.cleared(0, 1));
        due("15 the rest", 10, book.cleared(0, 0));
        book.decree("move 1 2;move 2 1;cut 2 50;spare 20;");
        due("15 beside", 1, book.clear(true));
        due("15 cut by the rank of ahead", 50, book.cleared(0, 0));
        due("15 moved behind", 0, book.cleared(0, 1));
        due("15 owes of what the decree leaves", 40, book.cleared(3, 0));
        due("15 nothing is in force", 80, book.look(0, 4));
        due("15 rank as it was", 2, book.look(0, 3));
        due("15 decree still at hand", 4, book.count(6));
        due("15 not beside", 1, book.clear(false));
        due("15 as things are", 40, book.cleared(0, 1));
    }

    // A ring of nine, through which a coin leaks a turn, is as slow as a CLEARING gets.
    private static void promise15LongestRounds() {
        Counted book = Counted.town(0, 0, 0, 0, 0, 0, 0, 0, 0, 0);
        book.paper(0, 9, 1, 0);
        for (int man = 0; man < 9; man++) {
            for (int paper = 0; paper < 4; paper++) {
                book.paper(man, (man + 1) % 9, 999 - paper, 1);
            }
        }
        int aroundTheRing = 999 + 998 + 997 + 996;
        due("15 all of the ring fail", 9, book.clear(false));
        due("15 all drains away", aroundTheRing * 9 + 1, book.count(5));
        for (int paper = 0; paper < 37; paper++) {
            due("15 paid " + paper, 0, book.cleared(0, paper));
        }
        due("15 last to fail", 9, book.cleared(2, 8));
    }

    private static void promise16Cleared() {
        Counted book = Counted.town(10, 0);
        for (int what = -1; what < 5; what++) {
            due("16 none at hand", NONE, book.cleared(what, 0));
        }
        book.paper(0, 1, 25, 0);
        book.clear(false);
        book.man(5);
        book.paper(2, 0, 4, 0);
        due("16 paid", 10, book.cleared(0, 0));
        due("16 no such paper then", NONE, book.cleared(0, 1));
        due("16 has", 0, book.cleared(1, 0));
        due("16 has too", 10, book.cleared(1, 1));
        due("16 no such man then", NONE, book.cleared(1, 2));
        due("16 fails", 1, book.cleared(2, 0));
        due("16 doesn't", 0, book.cleared(2, 1));
        due("16 no such man then", NONE, book.cleared(2, 2));
        due("16 owes", 15, book.cleared(3, 0));
        due("16 owes nothing", 0, book.cleared(3, 1));
        due("16 no such man then", NONE, book.cleared(3, 2));
        due("16 what 4", NONE, book.cleared(4, 0));
        due("16 what -1", NONE, book.cleared(-1, 0));
        due("16 k -1", NONE, book.cleared(0, -1));
        due("16 k MIN", NONE, book.cleared(1, MIN));
        due("16 k MAX", NONE, book.cleared(2, MAX));
        book.decree("cut 0 100;");
        book.enact();
        book.heir(0, 1);
        due("16 as it was then", 10, book.cleared(0, 0));
        due("16 as he was then", 15, book.cleared(3, 0));
        due("16 a new one", 0, book.clear(false));
        due("16 takes its place", 0, book.cleared(0, 1));
        due("16 with the new man", 5, book.cleared(1, 2));
    }

    private static void promise17Enact() {
        Counted book = Counted.town(0, 0);
        due("17 none at hand", NONE, book.enact());
        book.paper(0, 1, 15, 0);
        book.decree("");
        due("17 an empty one", 0, book.enact());
        due("17 none behind it", NONE, book.enact());
        book.decree("cut 0 50;");
        due("17 less", 7, book.enact());
        due("17 left", 8, book.look(0, 4));
        due("17 lines", NONE, book.count(6));
        book.paper(0, 1, 20, 0);
        due("17 papers told later are whole", 20, book.look(1, 4));
        due("17 beside without one", 1, book.clear(true));
        due("17 owes all", 28, book.cleared(3, 0));
    }

    private static void promise17Effects() {
        Counted book = Counted.town(0, 0);
        book.paper(0, 1, 100, 0);
        book.paper(0, 1, 100, 1);
        book.paper(0, 1, 30, 1);
        book.paper(0, 1, 30, 1);
        book.pass(4);
        book.paper(0, 1, 100, 2);
        book.pass(1);
        book.paper(0, 1, 100, 1);
        book.decree("spare 30;cut 1 33;move 0 1;move 1 2;before 5;cut 2 100;");
        due("17 less in all", 23 + 70, book.enact());
        int[] lefts = {100, 77, 30, 0, 30, 100};
        int[] ranks = {1, 2, 2, 2, 2, 1};
        for (int paper = 0; paper < 6; paper++) {
            due("17 left of " + paper, lefts[paper], book.look(paper, 4));
            due("17 rank of " + paper, ranks[paper], book.look(paper, 3));
        }
        book.decree("before 0;cut 0 100;cut 1 100;cut 2 100;cut 3 100;");
        due("17 ahead of day 0 is none", 0, book.enact());
        book.decree("before 4;cut 2 100;spare 29;");
        due("17 only those of day 0", 48 + 1, book.enact());
        book.decree("cut 0 100;cut 1 100;cut 2 100;cut 3 100;");
        due("17 all", 100 + 29 + 29 + 30 + 100, book.enact());
        due("17 nothing left", 0, book.count(3));
    }

    private static void promise18End() {
        Counted book = Counted.town(50, 0, 7);
        book.paper(0, 1, 80, 2);
        book.paper(1, 2, 20, 1);
        book.paper(0, 2, 10, 3);
        book.decree("cut 2 100;");
        book.clear(true);
        due("18 paid as things are", 70, book.end());
        due("18 next day", 1, book.count(2));
        due("18 left", 30, book.look(0, 4));
        due("18 left none", 0, book.look(1, 4));
        due("18 left all", 10, book.look(2, 4));
        due("18 purse 0", 0, book.purse(0));
        due("18 purse 1", 30, book.purse(1));
        due("18 purse 2", 27, book.purse(2));
        due("18 the clearing stays", 0, book.cleared(0, 0));
        due("18 and what he had", 40, book.cleared(1, 0));
        due("18 the decree stays", 1, book.count(6));
        due("18 nothing more to pay", 0, book.end());
        due("18 the day goes on", 2, book.count(2));
        book.boat(35, 0, 1, 0);
        due("18 later", 35, book.end());
        due("18 the last one in part", 5, book.look(2, 4));
        book.pass(995);
        due("18 on day 998", 0, book.end());
        book.boat(9, 0, 1, 0);
        due("18 not on day 999", NONE, book.end());
        due("18 nothing happens then", 9, book.purse(0));
        due("18 the last day", 999, book.count(2));
        Counted quiet = Counted.town(5, 0);
        quiet.paper(0, 1, 5, 0);
        due("18 pays", 5, quiet.end());
        due("18 is no clearing at hand", NONE, quiet.count(5));
        due("18 tells none", NONE, quiet.cleared(1, 0));
    }

    private static void promise19Count() {
        Counted book = Counted.town(5, 6, 0);
        book.pass(9);
        book.paper(0, 1, 10, 0);
        book.paper(0, 1, 10, 0);
        book.paper(1, 2, 20, 0);
        due("19 MEN", 3, book.count(0));
        due("19 PAPERS", 3, book.count(1));
        due("19 TODAY", 9, book.count(2));
        due("19 LEFT", 30, book.count(3));
        due("19 PURSES", 11, book.count(4));
        due("19 no CLEARING", NONE, book.count(5));
        due("19 no DECREE", NONE, book.count(6));
        due("19 what 7", NONE, book.count(7));
        due("19 what -1", NONE, book.count(-1));
        due("19 what MAX", NONE, book.count(MAX));
        due("19 two fail", 2, book.clear(false));
        due("19 ROUNDS", 2, book.count(5));
        book.decree("spare 1;before 3;");
        due("19 LINES", 2, book.count(6));
        book.end();
        due("19 ROUNDS stay", 2, book.count(5));
        due("19 PURSES together", 11, book.count(4));
    }

    // With ten men and forty papers each call works at the edge of what is held.
    private static void fullTown() {
        Counted book = Counted.town(50, 0, 0, 0, 0, 0, 0, 0, 0, 20);
        for (int paper = 0; paper < 40; paper++) {
            book.paper(paper % 10, (paper + 1) % 10, paper < 39 ? 10 : 999, paper / 10);
        }
        due("full: left", 39 * 10 + 999, book.count(3));
        due("full: net of the first", 10 * 3 + 999 - 40, book.net(0));
        due("full: net of the last", 10 - 999, book.net(9));
        due("full: thread", 989, book.thread());
        due("full: move", 989, book.move(0, 2));
        due("full: boat", 1, book.boat(18, 9, 9, 511));
        due("full: captain", 29, book.purse(9));
        due("full: crew", 1, book.purse(8));
        due("full: last paper", 999, book.look(39, 4));
        due("full: no paper behind it", NO_PAPER, book.look(40, 4));
        due("full: clear", 1, book.clear(false));
        due("full: paid last", 40 + 29 - 30, book.cleared(0, 39));
        due("full: fails", 1, book.cleared(2, 9));
        due("full: owes", 960, book.cleared(3, 9));
        due("full: no man behind him", NONE, book.cleared(3, 10));
        due("full: no paper behind the last", NONE, book.cleared(0, 40));
        book.decree("cut 3 100;");
        due("full: enact", 9 * 10 + 999, book.enact());
        due("full: end", 300, book.end());
        due("full: purse", 29, book.purse(9));
        Due.due("full: heir", true, book.heir(9, 0));
        due("full: last debtor", 0, book.look(39, 0));
        due("full: heir's purse", 51 + 29, book.purse(0));
    }
}
