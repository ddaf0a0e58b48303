/** The bounds of the TAPE, of TEXTS and of what a DECREE makes (Terms 3; promises 2, 13, 14 and 17). */
public final class DecreeBoundsTest {
    private static final int NONE = AdvanceBook.NONE;
    private static final int MAX = Integer.MAX_VALUE;
    private static final int MIN = Integer.MIN_VALUE;
    /** Numbers that would pass for small ones if they wrapped around, or if only some digits were read. */
    private static final String[] FAR = {"1000", "1001", "4096", "9999", "10000", "65536", "65537", "100000",
        "2147483647", "2147483648", "4294967295", "4294967296", "4294967297", "4294967299", "6442450944",
        "10000000000", "9223372036854775807", "9223372036854775808", "18446744073709551615",
        "18446744073709551616", "18446744073709551617", "340282366920938463463374607431768211456",
        "0000000000004294967296", "1000000000000000000000000000000000000000000000000000000000000000"};

    public static void main(String[] args) {
        feedAtMost();
        feedNoneCome();
        feedEveryPlace();
        feedEveryByte();
        feedGathers();
        blanks();
        wordsInARow();
        wordsNearMisses();
        signsAtLineStart();
        signsBehindNumber();
        signsBehindWord();
        linesAtMost();
        textOfFullTape();
        rankOfCut();
        numberOfCut();
        ranksOfMove();
        numberOfSpare();
        numberOfBefore();
        digitsInARow();
        faultTokenCannotStand();
        faultMoreMustCome();
        faultBeyond();
        faultToldAlready();
        faultFirstAlong();
        faultAtTheFarEnd();
        decreeTakesFirstBytes();
        decreeNotSoMany();
        decreeTapeStays();
        decreeTapeIsEmptyThen();
        decreeStaysWithFault();
        decreeNoneStaysNone();
        decreeTakesThePlace();
        faultOfLatest();
        faultOtherWhat();
        enactNoneAtHand();
        enactFromNowOn();
        enactCut();
        enactCutIsRoundedDown();
        enactSpare();
        enactBefore();
        enactWithoutBefore();
        enactCutByItsRank();
        enactMovesByRanksOfAhead();
        enactFullBook();
        Due.finish("DecreeBoundsTest");
    }

    private static void due(String call, long want, long got) {
        Due.due(call, want, got);
    }

    private static String times(String part, int times) {
        return part.repeat(times);
    }

    private static void decreeIs(String text, int lines) {
        Counted book = new Counted();
        due("decree(" + text + ")", lines, book.decree(text));
        due("fault(0) of " + text, 0, book.fault(0));
        due("fault(1) of " + text, NONE, book.fault(1));
        due("LINES of " + text, lines, book.count(6));
    }

    private static void faultIs(String text, int fault, int place) {
        Counted book = new Counted();
        due("decree(" + text + ")", NONE, book.decree(text));
        due("fault(0) of " + text, fault, book.fault(0));
        due("fault(1) of " + text, place, book.fault(1));
        due("LINES of " + text, NONE, book.count(6));
    }

    /** One man who owes the other these coins, of RANK 0. */
    private static Counted debtsOf(int... coins) {
        Counted book = Counted.town(0, 0);
        for (int one : coins) {
            book.paper(0, 1, one, 0);
        }
        return book;
    }

    private static void lefts(Counted book, int... want) {
        for (int paper = 0; paper < want.length; paper++) {
            due("LEFT of " + paper, want[paper], book.look(paper, 4));
        }
    }

    private static void ranks(Counted book, int... want) {
        for (int paper = 0; paper < want.length; paper++) {
            due("RANK of " + paper, want[paper], book.look(paper, 3));
        }
    }

    private static void enacts(Counted book, String text, int less) {
        due("decree(" + text + ")", 1, book.decree(text) >= 0 ? 1 : 0);
        due("enact() of " + text, less, book.enact());
    }

    // ---- Promise 2

    private static void feedAtMost() {
        Due.says("2: how many it has; NONE, and none come, if it would have more than 300.");
        Counted book = new Counted();
        for (int fed = 20; fed <= 300; fed += 20) {
            due("feed up to " + fed, fed, book.feed(MIN, -1, 0, 1, MAX));
        }
        due("beyond", NONE, book.feed(0, 0, 0, 0, 0));
        due("beyond again", NONE, book.feed(MIN, MAX, -1, MIN, MAX));
        due("none came", -2, book.decree(301));
        due("all 300", NONE, book.decree(300));
        due("an empty TAPE again", 20, book.feed(0, 0, 0, 0, 0));
    }

    private static void feedNoneCome() {
        Due.says("2: NONE, and none come");
        Counted book = new Counted();
        book.feedText(times(" ", 291) + "cut 0 50;");
        due("a 301st byte", NONE, book.feedText("xxxxxxxxxxxxxxxxxxxx"));
        due("the 300 bytes are as they were", 1, book.decree(300));
        due("no FAULT", 0, book.fault(0));
    }

    private static void feedEveryPlace() {
        Due.says("2: Twenty bytes come behind the TAPE, four of each number, the highest first");
        for (int place = 0; place < 300; place++) {
            String text = times(" ", place) + "x" + times(" ", 299 - place);
            Counted book = new Counted();
            due("feed of x at " + place, 300, book.feedText(text));
            due("decree of x at " + place, NONE, book.decree(300));
            due("place of x at " + place, place, book.fault(1));
        }
    }

    private static void feedEveryByte() {
        Due.says("2: four of each number, the highest first");
        Counted book = new Counted();
        // "cut 0 100;spare 999;" as numbers
        due("feed", 20, book.feed(0x63757420, 0x30203130, 0x303b7370, 0x61726520, 0x3939393b));
        due("decree", 2, book.decree(20));
        for (int number = 0; number < 5; number++) {
            for (int shift = 0; shift < 32; shift += 8) {
                int[] five = {0x20202020, 0x20202020, 0x20202020, 0x20202020, 0x20202020};
                // a byte that is negative as a Java byte, and would spoil those ahead of it if added
                five[number] |= 255 << shift;
                Counted one = new Counted();
                one.feed(five[0], five[1], five[2], five[3], five[4]);
                int place = number * 4 + 3 - shift / 8;
                due("up to byte " + place, 0, one.decree(place));
                one.feed(five[0], five[1], five[2], five[3], five[4]);
                due("with byte " + place, NONE, one.decree(20));
                due("at byte " + place, place, one.fault(1));
            }
        }
    }

    private static void feedGathers() {
        Due.says("2: Twenty bytes come behind the TAPE");
        Counted book = new Counted();
        due("first", 20, book.feedText("cut 0 1;cut 1 2;cut "));
        due("second", 40, book.feedText("2 3;cut 3 4;spare 12"));
        due("third", 60, book.feedText("3;                  "));
        due("across the feeds", 5, book.decree(60));
    }

    // ---- Terms 3: the TEXT

    private static void blanks() {
        Due.says("Terms: { LINE ';' }. Blanks 10, 32.");
        decreeIs("", 0);
        decreeIs(" ", 0);
        decreeIs("\n", 0);
        decreeIs(times(" \n", 150), 0);
        decreeIs("cut 0 5;", 1);
        decreeIs("cut\n0\n5\n;\n", 1);
        decreeIs(" \n cut \n 0 \n 5 \n ; \n ", 1);
        decreeIs("cut0 5;move0 1;spare5;before6;", 4);
        decreeIs("cut 0 5 ;cut 1 5;\ncut 2 5; cut 3 5;", 4);
        for (int sign : new int[] {0, 1, 8, 9, 11, 12, 13, 31, 33, 127, 128, 133, 138, 160, 255}) {
            faultIs(String.valueOf((char) sign), 1, 0);
            faultIs("cut 0 5;" + (char) sign, 1, 8);
            faultIs("cut 0" + (char) sign + "5;", 1, 5);
        }
    }

    private static void wordsInARow() {
        Due.says("Terms: Words are small letters in a row, R and N digits.");
        faultIs("c ut 0 5;", 1, 0);
        faultIs("cu t 0 5;", 1, 0);
        faultIs("cut 0 5;sp are 5;", 1, 8);
        faultIs("Cut 0 5;", 1, 0);
        faultIs("cUt 0 5;", 1, 0);
        faultIs("CUT 0 5;", 1, 0);
        faultIs("cuT 0 5;", 1, 0);
        faultIs("cut zero five;", 1, 4);
        faultIs("cut 0 1 0;", 1, 8);
        faultIs("cut -0 5;", 1, 4);
        faultIs("cut +0 5;", 1, 4);
        faultIs("cut 0,5;", 1, 5);
        faultIs("cut 0 5.0;", 1, 7);
    }

    private static void wordsNearMisses() {
        Due.says("Terms: 1 a TOKEN that is none");
        for (String word : new String[] {"cut", "move", "spare", "before"}) {
            String rest = word.equals("cut") || word.equals("move") ? " 0 1;" : " 1;";
            decreeIs(word + rest, 1);
            faultIs(word + word + rest, 1, 0);
            faultIs(word + "x" + rest, 1, 0);
            faultIs("x" + word + rest, 1, 0);
            faultIs(word.substring(1) + rest, 1, 0);
            faultIs(word.substring(0, word.length() - 1) + rest, 1, 0);
            faultIs(word.substring(0, 1) + rest, 1, 0);
            faultIs(word.substring(0, word.length() - 1) + "{" + rest, 1, 0);
            for (int at = 0; at < word.length(); at++) {
                char[] signs = word.toCharArray();
                signs[at]++;
                faultIs(new String(signs) + rest, 1, 0);
            }
        }
        faultIs(times("cut", 100), 1, 0);
        faultIs(times("a", 300), 1, 0);
    }

    private static void signsAtLineStart() {
        Due.says("Terms: 1 a TOKEN that is none or can't stand there");
        for (int sign = 0; sign < 256; sign++) {
            String text = String.valueOf((char) sign);
            if (sign == 10 || sign == 32) {
                decreeIs(text, 0);
            } else {
                faultIs(text, 1, 0);
                faultIs("spare 7; " + text, 1, 9);
            }
        }
    }

    private static void signsBehindNumber() {
        Due.says("Terms: 1 a TOKEN that is none or can't stand there (the length, if more must come).");
        for (int sign = 0; sign < 256; sign++) {
            String text = "cut 0 5" + (char) sign;
            boolean goesOn = sign == 10 || sign == 32 || sign >= '0' && sign <= '9';
            if (sign == ';') {
                decreeIs(text, 1);
            } else {
                faultIs(text, 1, goesOn ? 8 : 7);
            }
        }
    }

    private static void signsBehindWord() {
        Due.says("Terms: Words are small letters in a row, R and N digits.");
        for (int sign = 0; sign < 256; sign++) {
            String text = "cut" + (char) sign + "0 5;";
            if (sign == 10 || sign == 32 || sign == '0') {
                decreeIs(text, 1);
            } else if (sign >= 'a' && sign <= 'z') {
                faultIs(text, 1, 0);
            } else {
                faultIs(text, sign > '0' && sign <= '9' ? 2 : 1, 3);
            }
        }
    }

    private static void linesAtMost() {
        Due.says("13: how many LINES. Terms: { LINE ';' }");
        String[] all = {"cut 0 1;", "cut 1 1;", "cut 2 1;", "cut 3 1;", "move 0 1;", "move 1 1;", "move 2 1;",
            "move 3 1;", "spare 1;", "before 1;"};
        StringBuilder text = new StringBuilder();
        for (int lines = 1; lines <= all.length; lines++) {
            text.append(all[lines - 1]);
            decreeIs(text.toString(), lines);
        }
        int[] rightBehindTheWord = {4, 4, 4, 4, 5, 5, 5, 5, 0, 0};
        for (int line = 0; line < all.length; line++) {
            faultIs(text + all[line], 3, text.length() + rightBehindTheWord[line]);
        }
        faultIs(text + ";", 1, text.length());
    }

    private static void textOfFullTape() {
        Due.says("Terms: A DECREE: a TEXT: { LINE ';' }");
        decreeIs("cut 0 5;" + times(" ", 292), 1);
        decreeIs(times("\n", 292) + "cut 0 5;", 1);
        decreeIs("cut" + times(" ", 290) + "0 100;" + " ", 1);
        decreeIs("spare " + times("0", 290) + "999;", 1);
        faultIs("spare " + times("0", 289) + "1000;", 2, 6);
        faultIs("spare " + times("9", 293) + ";", 2, 6);
        faultIs("cut " + times("4294967296", 29) + " 0 0;;", 2, 4);
        faultIs(times("9", 300), 1, 0);
        faultIs(times(";", 300), 1, 0);
    }

    private static void numbersOf(String ahead, String behind, int most) {
        for (int number = 0; number <= 1100; number++) {
            if (number <= most) {
                decreeIs(ahead + number + behind, 1);
            } else {
                faultIs(ahead + number + behind, 2, ahead.length());
            }
        }
        for (String number : FAR) {
            faultIs(ahead + number + behind, 2, ahead.length());
            faultIs(ahead + "0" + number + behind, 2, ahead.length());
        }
    }

    private static void rankOfCut() {
        Due.says("Terms: R: a RANK 0 .. 3. 2 an R, N beyond what is said (at it).");
        numbersOf("cut ", " 5;", 3);
    }

    private static void numberOfCut() {
        Due.says("Terms: N: of cut 0 .. 100. 2 an R, N beyond what is said (at it).");
        numbersOf("cut 3 ", ";", 100);
    }

    private static void ranksOfMove() {
        Due.says("Terms: move R R. R: a RANK 0 .. 3. 2 an R, N beyond what is said (at it).");
        numbersOf("move ", " 0;", 3);
        numbersOf("move 0 ", ";", 3);
    }

    private static void numberOfSpare() {
        Due.says("Terms: N: .. of spare 0 .. 999. 2 an R, N beyond what is said (at it).");
        numbersOf("spare ", ";", 999);
    }

    private static void numberOfBefore() {
        Due.says("Terms: N: .. of before 0 .. 999. 2 an R, N beyond what is said (at it).");
        numbersOf("before ", ";", 999);
    }

    private static void digitsInARow() {
        Due.says("Terms: R and N digits.");
        decreeIs("cut 000 00;", 1);
        decreeIs("cut 03 0100;", 1);
        decreeIs("move 0003 0000000000000000;", 1);
        decreeIs("spare 0999;before 00999;", 2);
        // without a blank R and N are one number
        faultIs("cut 05;", 2, 4);
        faultIs("cut 00;", 1, 6);
        faultIs("cut 35;", 2, 4);
        faultIs("cut 3 /;", 1, 6);
        faultIs("cut 3 :;", 1, 6);
        faultIs("cut 0 100 ", 1, 10);
    }

    // ---- Terms 3: FAULTS

    private static void faultTokenCannotStand() {
        Due.says("Terms: 1 a TOKEN that .. can't stand there");
        String[] wantsRank = {"cut ", "move ", "cut 0 ", "move 0 ", "spare ", "before "};
        for (String ahead : wantsRank) {
            for (String token : new String[] {";", "cut", "move", "spare", "before", "x", "#"}) {
                faultIs(ahead + token + " 0;", 1, ahead.length());
            }
        }
        String[] wantsEnd = {"cut 0 0 ", "move 0 0 ", "spare 0 ", "before 0 "};
        for (String ahead : wantsEnd) {
            for (String token : new String[] {"0", "999", "9999", "cut", "move", "spare", "before", "x", "#"}) {
                faultIs(ahead + token + ";", 1, ahead.length());
            }
        }
        for (String token : new String[] {";", "0", "3", "9999", "x", "#", "\u00e9"}) {
            faultIs(token, 1, 0);
            faultIs("cut 0 0;" + token, 1, 8);
        }
    }

    private static void faultMoreMustCome() {
        Due.says("Terms: (the length, if more must come)");
        for (String text : new String[] {"cut 0 100;", "move 3 0;", "spare 999;", "before 999;"}) {
            for (int length = text.indexOf(' '); length < text.length(); length++) {
                faultIs(text.substring(0, length), 1, length);
                faultIs(text.substring(0, length) + " ", 1, length + 1);
                faultIs("\n" + text.substring(0, length) + " \n\n ", 1, length + 5);
            }
            decreeIs(text, 1);
        }
        Counted book = new Counted();
        book.feedText("cut 0 5;");
        due("the first 7 bytes", NONE, book.decree(7));
        due("their length, not the TAPE's", 7, book.fault(1));
    }

    private static void faultBeyond() {
        Due.says("Terms: 2 an R, N beyond what is said (at it).");
        faultIs("  cut \n 4 0;", 2, 8);
        faultIs("cut 3  101;", 2, 7);
        faultIs("cut 0 100;cut 1 101;", 2, 16);
        faultIs("move  4 0;", 2, 6);
        faultIs("move 3 \n4;", 2, 8);
        faultIs("spare0;before1000;", 2, 13);
        faultIs("cut 0 101", 2, 6);
        faultIs("cut 4", 2, 4);
        faultIs("spare 1000", 2, 6);
        faultIs("before 1000 x", 2, 7);
    }

    private static void faultToldAlready() {
        Due.says("Terms: 3 a cut or move of a RANK told already (at the first R), spare or before told already (at that word).");
        for (int rank = 0; rank <= 3; rank++) {
            faultIs("cut " + rank + " 5;cut " + rank + " 5;", 3, 12);
            faultIs("cut " + rank + " 0;cut 0" + rank + " 0;", 3, 12);
            faultIs("move " + rank + " 1;move " + rank + " 2;", 3, 14);
            faultIs("move " + rank + " " + rank + "; move " + rank + " " + rank + ";", 3, 15);
            decreeIs("cut " + rank + " 5;move " + rank + " 3;", 2);
            decreeIs("cut " + rank + " 5;cut " + (rank + 1) % 4 + " 5;", 2);
            decreeIs("move " + rank + " 0;move " + (rank + 1) % 4 + " 0;", 2);
        }
        faultIs("spare 0;spare 0;", 3, 8);
        faultIs("spare 999; spare 999;", 3, 11);
        faultIs("before 0;before 0;", 3, 9);
        faultIs("before 999;\nbefore 1;", 3, 12);
        decreeIs("spare 0;before 0;", 2);
        decreeIs("before 0;spare 0;", 2);
        // the second R of a move is no RANK that was told
        decreeIs("move 0 1;move 1 0;move 2 1;move 3 1;", 4);
    }

    private static void faultFirstAlong() {
        Due.says("Terms: FAULTS, the first along the text (of one place the least), with its place");
        faultIs("x cut 4 0;", 1, 0);
        faultIs("cut 4 x", 2, 4);
        faultIs("cut 4 101;", 2, 4);
        faultIs("cut 0 101;cut 0 5;", 2, 6);
        faultIs("cut 0 5;cut 0 101;", 3, 12);
        faultIs("cut 0 5;cut 0;", 3, 12);
        faultIs("cut 0 5;cut 0", 3, 12);
        faultIs("cut 0 5;cut ;cut 0 5;", 1, 12);
        faultIs("spare 0;spare", 3, 8);
        faultIs("spare 0;spare 1000;", 3, 8);
        faultIs("spare 0;spare x", 3, 8);
        faultIs("spare 1000;spare 0;", 2, 6);
        faultIs("before 5;before;", 3, 9);
        faultIs("before;before 5;", 1, 6);
        faultIs("move 1 1;move 1 4;", 3, 14);
        faultIs("move 1 4;move 1 1;", 2, 7);
        faultIs("cut 0 5;cut 9 5;cut 0 5;", 2, 12);
        faultIs("cut 0 5 cut 0 5;", 1, 8);
    }

    private static void faultAtTheFarEnd() {
        Due.says("Terms: FAULTS, .. with its place");
        faultIs(times(" ", 299) + ";", 1, 299);
        faultIs(times(" ", 297) + "cut", 1, 300);
        faultIs(times(" ", 292) + "cut 0 5 ", 1, 300);
        faultIs(times(" ", 289) + "cut 0 5;cut", 1, 300);
        faultIs(times(" ", 283) + "spare 0;spare 0;;", 3, 291);
        faultIs(times(" ", 292) + "before 9", 1, 300);
        faultIs("before" + times(" ", 290) + "1000", 2, 296);
    }

    // ---- Promise 13

    private static void decreeTakesFirstBytes() {
        Due.says("13: The TAPE's first n bytes (it is empty then) are the DECREE at hand");
        String text = "cut 0 5;move 1 2;  x";
        int[] want = {0, NONE, NONE, NONE, NONE, NONE, NONE, NONE, 1, NONE, NONE, NONE, NONE, NONE, NONE, NONE,
            NONE, 2, 2, 2, NONE};
        for (int n = 0; n <= 20; n++) {
            Counted book = new Counted();
            book.feedText(text);
            due("decree(" + n + ")", want[n], book.decree(n));
            due("LINES of " + n, want[n], book.count(6));
        }
    }

    private static void decreeNotSoMany() {
        Due.says("13: -2, and the TAPE stays: there are not so many, n is below 0.");
        Counted book = new Counted();
        for (int n : Bounds.outside(0, 0)) {
            due("of an empty TAPE: decree(" + n + ")", -2, book.decree(n));
        }
        due("decree(0)", 0, book.decree(0));
        book.feed(0x20202020, 0x20202020, 0x20202020, 0x20202020, 0x20202020);
        for (int n : Bounds.outside(0, 20)) {
            due("of 20 bytes: decree(" + n + ")", -2, book.decree(n));
        }
        due("decree(20)", 0, book.decree(20));
        book.feedText(times(" ", 300));
        for (int n : Bounds.outside(0, 300)) {
            due("of 300 bytes: decree(" + n + ")", -2, book.decree(n));
        }
        due("decree(300)", 0, book.decree(300));
    }

    private static void decreeTapeStays() {
        Due.says("13: -2, and the TAPE stays");
        for (int n : new int[] {-1, 21, MIN, MAX}) {
            Counted book = new Counted();
            book.decree("spare 1;before 2;cut 0 9;");
            book.feedText("cut 0 5;move 0 4;");
            due("decree(" + n + ")", -2, book.decree(n));
            due("the DECREE at hand stays", 3, book.count(6));
            due("the FAULT stays", 0, book.fault(0));
            due("as many bytes", 40, book.feedText(times(" ", 20)));
            due("the same bytes", NONE, book.decree(20));
            due("their FAULT", 2, book.fault(0));
            due("its place", 15, book.fault(1));
        }
    }

    private static void decreeTapeIsEmptyThen() {
        Due.says("13: (it is empty then)");
        for (int n : new int[] {0, 8, 9, 20}) {
            Counted book = new Counted();
            book.feedText("cut 0 5;;" + times(" ", 11));
            book.feedText(times(" ", 20));
            due("decree(" + n + ")", n == 0 ? 0 : n == 8 ? 1 : NONE, book.decree(n));
            due("nothing behind n is kept", -2, book.decree(1));
            due("from the start", 20, book.feedText("cut 1 5;cut 2 5;"));
            due("no byte of ahead", 2, book.decree(16));
        }
    }

    private static void decreeStaysWithFault() {
        Due.says("13: NONE with a FAULT (the DECREE at hand stays)");
        String[] faulty = {"x", "cut 0 101;", "cut 0 9;cut 0 9;", "move 0 1;cut 1 100;spare 7;before 0;;",
            "spare 900;", "before 0;", "cut 0 0;"};
        for (String text : faulty) {
            Counted book = debtsOf(100, 50);
            book.decree("cut 0 50;spare 20;before 1;");
            // the last three are whole LINES with a sign too many behind them
            due("decree with a FAULT", NONE, book.decree(text + "#"));
            due("LINES", 3, book.count(6));
            due("a CLEARING by it", 1, book.clear(true));
            due("by what it cuts", 60 + 35, book.cleared(3, 0));
            due("put in FORCE", 40 + 15, book.enact());
            lefts(book, 60, 35);
            ranks(book, 0, 0);
        }
    }

    private static void decreeNoneStaysNone() {
        Due.says("13: NONE with a FAULT (the DECREE at hand stays)");
        Counted book = debtsOf(100);
        due("decree with a FAULT", NONE, book.decree("cut 0 50;;"));
        due("LINES", NONE, book.count(6));
        due("a CLEARING as things are", 1, book.clear(true));
        due("all is owed", 100, book.cleared(3, 0));
        due("enact()", NONE, book.enact());
        lefts(book, 100);
    }

    private static void decreeTakesThePlace() {
        Due.says("13: The TAPE's first n bytes .. are the DECREE at hand");
        Counted book = debtsOf(100);
        book.decree("cut 0 50;spare 20;before 1;move 0 3;");
        due("a new one", 1, book.decree("cut 0 10;"));
        due("LINES", 1, book.count(6));
        book.clear(true);
        due("nothing of the one ahead", 90, book.cleared(3, 0));
        due("an empty one", 0, book.decree(0));
        due("LINES of the empty one", 0, book.count(6));
        book.clear(true);
        due("cuts nothing", 100, book.cleared(3, 0));
        due("is one that can be put in FORCE", 0, book.enact());
        due("once", NONE, book.enact());
        lefts(book, 100);
        ranks(book, 0);
    }

    // ---- Promise 14

    private static void faultOfLatest() {
        Due.says("14: Of the latest decree() that was not -2, what 0: its FAULT (0), 1: its place (NONE without).");
        Counted book = new Counted();
        due("decree(1)", -2, book.decree(1));
        due("none yet", 0, book.fault(0));
        due("no place yet", NONE, book.fault(1));
        book.decree("cut 9 9;");
        due("FAULT", 2, book.fault(0));
        due("place", 4, book.fault(1));
        due("decree(-1)", -2, book.decree(-1));
        due("FAULT stays", 2, book.fault(0));
        due("place stays", 4, book.fault(1));
        book.decree("  spare 0;spare 0;");
        due("another FAULT", 3, book.fault(0));
        due("another place", 10, book.fault(1));
        book.decree("#");
        due("the least FAULT", 1, book.fault(0));
        due("the least place", 0, book.fault(1));
        due("none with decree(0)", 0, book.decree(0));
        due("no FAULT", 0, book.fault(0));
        due("no place", NONE, book.fault(1));
        book.enact();
        due("no FAULT behind enact()", 0, book.fault(0));
    }

    private static void faultOtherWhat() {
        Due.says("14: NONE for another what.");
        Counted book = new Counted();
        for (int what : Bounds.outside(0, 1)) {
            due("none yet: fault(" + what + ")", NONE, book.fault(what));
        }
        book.decree("cut 9 9;");
        for (int what : Bounds.outside(0, 1)) {
            due("with a FAULT: fault(" + what + ")", NONE, book.fault(what));
        }
    }

    // ---- Promise 17

    private static void enactNoneAtHand() {
        Due.says("17: (there is none at hand then) .. NONE: none is at hand.");
        Counted book = debtsOf(100);
        due("none yet", NONE, book.enact());
        lefts(book, 100);
        book.decree("cut 0 50;move 0 1;");
        due("less", 50, book.enact());
        due("none then", NONE, book.enact());
        due("no LINES", NONE, book.count(6));
        due("clear(true) as things are", 1, book.clear(true));
        due("owed", 50, book.cleared(3, 0));
        lefts(book, 50);
        ranks(book, 1);
        book.decree("#");
        due("none with a FAULT", NONE, book.enact());
    }

    private static void enactFromNowOn() {
        Due.says("Terms: put in FORCE: then it is so from now on.");
        Counted book = debtsOf(100);
        enacts(book, "cut 0 50;", 50);
        enacts(book, "cut 0 50;", 25);
        lefts(book, 25);
        book.paper(0, 1, 80, 0);
        lefts(book, 25, 80);
        enacts(book, "move 0 1;", 0);
        enacts(book, "cut 0 100;", 0);
        enacts(book, "cut 1 100;", 105);
        lefts(book, 0, 0);
        enacts(book, "cut 1 100;", 0);
        book.heir(0, 1);
        enacts(book, "move 1 0;", 0);
        ranks(book, 0, 0);
    }

    private static void enactCut() {
        Due.says("Terms: less by N in a hundred of it (cut). N: of cut 0 .. 100");
        Counted none = debtsOf(1, 2, 500, 998, 999);
        enacts(none, "cut 0 0;", 0);
        lefts(none, 1, 2, 500, 998, 999);
        Counted all = debtsOf(1, 2, 500, 998, 999);
        enacts(all, "cut 0 100;", 2500);
        lefts(all, 0, 0, 0, 0, 0);
    }

    private static void enactCutIsRoundedDown() {
        Due.says("Terms: less by N in a hundred of it");
        Counted one = debtsOf(1, 99, 100, 101, 199, 200, 999);
        enacts(one, "cut 0 1;", 1 + 1 + 1 + 2 + 9);
        lefts(one, 1, 99, 99, 100, 198, 198, 990);
        Counted most = debtsOf(1, 2, 99, 100, 101, 999);
        enacts(most, "cut 0 99;", 1 + 98 + 99 + 99 + 989);
        lefts(most, 1, 1, 1, 1, 2, 10);
        Counted half = debtsOf(1, 2, 3, 999);
        enacts(half, "cut 0 50;", 1 + 1 + 499);
        lefts(half, 1, 1, 2, 500);
    }

    private static void enactSpare() {
        Due.says("Terms: what is above spare (without: above 0) is less. N: .. of spare 0 .. 999");
        Counted book = debtsOf(1, 29, 30, 31, 32, 999);
        enacts(book, "spare 30;cut 0 100;", 1 + 2 + 969);
        lefts(book, 1, 29, 30, 30, 30, 30);
        Counted none = debtsOf(1, 999);
        enacts(none, "cut 0 100;spare 0;", 1000);
        lefts(none, 0, 0);
        Counted last = debtsOf(998, 999);
        enacts(last, "cut 0 100;spare 999;", 0);
        enacts(last, "cut 0 100;spare 998;", 1);
        lefts(last, 998, 998);
        Counted part = debtsOf(129, 130, 131);
        enacts(part, "spare 30;cut 0 33;", 32 + 33 + 33);
        lefts(part, 97, 97, 98);
        Counted alone = debtsOf(7);
        enacts(alone, "spare 0;", 0);
        lefts(alone, 7);
    }

    private static void enactBefore() {
        Due.says("Terms: a PAPER that was told ahead of the DAY that before tells. N: .. of before 0 .. 999");
        int[] days = {0, 1, 2, 998, 999};
        int[] befores = {0, 1, 2, 3, 998, 999};
        int[] reached = {0, 1, 2, 3, 3, 4};
        for (int at = 0; at < befores.length; at++) {
            Counted book = Counted.town(0, 0);
            for (int paper = 0; paper < days.length; paper++) {
                book.pass(days[paper] - book.count(2));
                book.paper(0, 1, 10, 2);
            }
            enacts(book, "cut 2 100;move 2 1;before " + befores[at] + ";", 10 * reached[at]);
            for (int paper = 0; paper < days.length; paper++) {
                boolean ahead = days[paper] < befores[at];
                due("LEFT of DAY " + days[paper], ahead ? 0 : 10, book.look(paper, 4));
                due("RANK of DAY " + days[paper], ahead ? 1 : 2, book.look(paper, 3));
            }
        }
    }

    private static void enactWithoutBefore() {
        Due.says("Terms: (without: of all)");
        Counted book = debtsOf(10);
        book.pass(999);
        book.paper(0, 1, 10, 0);
        enacts(book, "cut 0 100;move 0 3;", 20);
        lefts(book, 0, 0);
        ranks(book, 3, 3);
    }

    private static void enactCutByItsRank() {
        Due.says("Terms: by the cut of its RANK; then it has the RANK that move tells for its RANK.");
        Counted book = Counted.town(0, 0);
        for (int rank = 0; rank <= 3; rank++) {
            book.paper(0, 1, 100, rank);
        }
        enacts(book, "move 0 1;cut 0 10;cut 1 20;move 3 0;cut 3 40;", 70);
        lefts(book, 90, 80, 100, 60);
        ranks(book, 1, 1, 2, 0);
    }

    private static void enactMovesByRanksOfAhead() {
        Due.says("Terms: (All moves by the RANKS of ahead.)");
        Counted book = Counted.town(0, 0);
        for (int rank = 0; rank <= 3; rank++) {
            book.paper(0, 1, 100, rank);
        }
        book.paper(0, 1, 100, 3);
        enacts(book, "move 0 1;move 1 2;move 2 3;move 3 0;", 0);
        ranks(book, 1, 2, 3, 0, 0);
        enacts(book, "move 3 0;move 0 3;move 1 1;", 0);
        ranks(book, 1, 2, 0, 3, 3);
        enacts(book, "move 0 0;move 1 0;move 2 0;move 3 0;", 0);
        ranks(book, 0, 0, 0, 0, 0);
    }

    private static void enactFullBook() {
        Due.says("17: by how many coins less is LEFT in all");
        Counted book = Counted.town(0, 0);
        for (int day = 0; day < 10; day++) {
            for (int rank = 0; rank <= 3; rank++) {
                book.paper(0, 1, 999, rank);
            }
            book.pass(1);
        }
        enacts(book, "cut 0 100;cut 1 100;cut 2 100;cut 3 100;spare 1;", 40 * 998);
        due("LEFT in all", 40, book.count(3));
        due("of the last PAPER", 1, book.look(39, 4));
        enacts(book, "cut 0 100;cut 1 100;cut 2 100;cut 3 100;before 9;", 36);
        due("the last DAY alone", 4, book.count(3));
    }
}
