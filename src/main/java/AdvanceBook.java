import java.util.Arrays;
import java.util.NoSuchElementException;

/** A book of advances: men, their debts, decrees over them, and the season's end. */
public final class AdvanceBook {
    public static final int NONE = -1;

    private static final int TOO_FEW_BYTES = -2;
    private static final int MOST_MEN = 10;
    private static final int MOST_PURSE = 99999;
    private static final int MOST_PAPERS = 40;
    private static final int MOST_COINS = 999;
    private static final int RANKS = 4;
    private static final int LAST_DAY = 999;
    private static final int MOST_GAIN = 9999;
    private static final int MOST_PARTS = 9;
    private static final int MOST_BYTES = 300;
    private static final int BYTES_FED = 20;

    private final Town town = new Town();
    private final Tape tape = new Tape();
    private final Reader reader = new Reader();
    private final Balance balance = new Balance();
    // An empty DECREE changes nothing, so one way of CLEARING serves with and without one.
    private final Decree asThingsAre = new Decree();
    private final Clearing clearingAtHand = new Clearing();
    // The season's END must leave the CLEARING at hand alone.
    private final Clearing clearingOfEnd = new Clearing();
    private Decree decreeAtHand = new Decree();
    private Decree draft = new Decree();
    private boolean isDecreeAtHand = false;

    public AdvanceBook() {
    }

    public int feed(int a, int b, int c, int d, int e) {
        if (tape.length + BYTES_FED > MOST_BYTES) {
            return NONE;
        }
        tape.append(a);
        tape.append(b);
        tape.append(c);
        tape.append(d);
        tape.append(e);
        return tape.length;
    }

    public int man(int purse) {
        if (purse < 0 || purse > MOST_PURSE) {
            return NONE;
        }
        return town.settle(purse);
    }

    public int paper(int debtor, int creditor, int coins, int rank) {
        if (!town.hasMan(debtor) || !town.hasMan(creditor) || debtor == creditor) {
            return NONE;
        }
        if (coins < 1 || coins > MOST_COINS || rank < 0 || rank >= RANKS) {
            return NONE;
        }
        return town.papers.write(debtor, creditor, coins, rank, town.today);
    }

    public int look(int paper, int what) throws IndexOutOfBoundsException, NoSuchElementException {
        if (!town.papers.holds(paper)) {
            throw new IndexOutOfBoundsException("no such paper");
        }
        if (what < 0 || what > 6) {
            throw new NoSuchElementException("no such what");
        }
        return town.papers.tell(paper, what);
    }

    public int pass(int days) {
        if (days < 0 || days > LAST_DAY - town.today) {
            return NONE;
        }
        town.today += days;
        return town.today;
    }

    public int purse(int man) {
        return town.hasMan(man) ? town.purses[man] : NONE;
    }

    public int net(int man) {
        return town.hasMan(man) ? town.papers.netOf(man) : Integer.MIN_VALUE;
    }

    public int thread() {
        balance.workOut(town);
        return balance.coinsMoved();
    }

    public int move(int k, int what) {
        balance.workOut(town);
        return balance.tell(k, what);
    }

    public int boat(int gain, int captain, int parts, int crew) {
        if (gain < 0 || gain > MOST_GAIN || parts < 1 || parts > MOST_PARTS) {
            return NONE;
        }
        if (!town.hasMan(captain) || !town.isCrew(crew, captain)) {
            return NONE;
        }
        return town.shareBoat(gain, captain, parts, crew);
    }

    public boolean heir(int man, int heir) {
        if (!town.hasMan(man) || !town.hasMan(heir) || man == heir) {
            return false;
        }
        town.handOver(man, heir);
        return true;
    }

    public int decree(int n) {
        if (n < 0 || n > tape.length) {
            return TOO_FEW_BYTES;
        }
        reader.read(tape, n, draft);
        tape.length = 0;
        if (reader.fault != Reader.FAULTLESS) {
            return NONE;
        }
        Decree former = decreeAtHand;
        decreeAtHand = draft;
        draft = former;
        isDecreeAtHand = true;
        return decreeAtHand.lines;
    }

    public int fault(int what) {
        switch (what) {
            case 0:
                return reader.fault;
            case 1:
                return reader.faultPlace;
            default:
                return NONE;
        }
    }

    public int clear(boolean beside) {
        clearingAtHand.work(town, beside && isDecreeAtHand ? decreeAtHand : asThingsAre);
        return clearingAtHand.menFailed();
    }

    public int cleared(int what, int k) {
        return clearingAtHand.tell(what, k);
    }

    public int enact() {
        if (!isDecreeAtHand) {
            return NONE;
        }
        isDecreeAtHand = false;
        return town.papers.obey(decreeAtHand);
    }

    public int end() {
        if (town.today >= LAST_DAY) {
            return NONE;
        }
        clearingOfEnd.work(town, asThingsAre);
        town.carryOut(clearingOfEnd);
        town.today++;
        return clearingOfEnd.coinsPaid();
    }

    public int count(int what) {
        switch (what) {
            case 0:
                return town.men;
            case 1:
                return town.papers.size;
            case 2:
                return town.today;
            case 3:
                return town.papers.leftInAll();
            case 4:
                return town.allPurses();
            case 5:
                return clearingAtHand.rounds;
            case 6:
                return isDecreeAtHand ? decreeAtHand.lines : NONE;
            default:
                return NONE;
        }
    }

    /** The MEN with their PURSES, their PAPERS, and the DAY. */
    private static final class Town {
        private final int[] purses = new int[MOST_MEN];
        private final Papers papers = new Papers();
        private int men = 0;
        private int today = 0;

        boolean hasMan(int man) {
            return man >= 0 && man < men;
        }

        int settle(int purse) {
            if (men >= MOST_MEN) {
                return NONE;
            }
            purses[men] = purse;
            men++;
            return men - 1;
        }

        boolean isCrew(int crew, int captain) {
            return (crew >>> men) == 0 && (crew >>> captain & 1) == 0;
        }

        int shareBoat(int gain, int captain, int parts, int crew) {
            int crewParts = Integer.bitCount(crew);
            int allParts = parts + crewParts;
            int part = allParts > 0 ? gain / allParts : 0;
            for (int man = 0; man < men; man++) {
                if ((crew >>> man & 1) == 1) {
                    purses[man] += part;
                }
            }
            purses[captain] += gain - part * crewParts;
            return part;
        }

        void handOver(int man, int heir) {
            purses[heir] += purses[man];
            purses[man] = 0;
            papers.handOver(man, heir);
        }

        void carryOut(Clearing clearing) {
            for (int man = 0; man < men; man++) {
                purses[man] = clearing.has[man];
            }
            for (int paper = 0; paper < papers.size; paper++) {
                papers.lefts[paper] -= clearing.paid[paper];
            }
        }

        int allPurses() {
            int sum = 0;
            for (int man = 0; man < men; man++) {
                sum += purses[man];
            }
            return sum;
        }
    }

    /** The PAPERS: a row for each thing that is known of them, by their numbers. */
    private static final class Papers {
        // COPIES are known by what was told, which an HEIR or a DECREE must not change.
        private final int[] toldDebtors = new int[MOST_PAPERS];
        private final int[] toldCreditors = new int[MOST_PAPERS];
        private final int[] toldCoins = new int[MOST_PAPERS];
        private final int[] toldRanks = new int[MOST_PAPERS];
        private final int[] days = new int[MOST_PAPERS];
        private final boolean[] copies = new boolean[MOST_PAPERS];
        private final int[] debtors = new int[MOST_PAPERS];
        private final int[] creditors = new int[MOST_PAPERS];
        private final int[] ranks = new int[MOST_PAPERS];
        private final int[] lefts = new int[MOST_PAPERS];
        private int size = 0;

        boolean holds(int paper) {
            return paper >= 0 && paper < size;
        }

        int write(int debtor, int creditor, int coins, int rank, int day) {
            int paper = size;
            if (paper >= MOST_PAPERS) {
                return NONE;
            }
            boolean copy = isTold(debtor, creditor, coins, rank, day);
            toldDebtors[paper] = debtor;
            toldCreditors[paper] = creditor;
            toldCoins[paper] = coins;
            toldRanks[paper] = rank;
            days[paper] = day;
            copies[paper] = copy;
            debtors[paper] = debtor;
            creditors[paper] = creditor;
            ranks[paper] = rank;
            lefts[paper] = copy ? 0 : coins;
            size++;
            return paper;
        }

        private boolean isTold(int debtor, int creditor, int coins, int rank, int day) {
            for (int paper = 0; paper < size; paper++) {
                if (toldDebtors[paper] == debtor && toldCreditors[paper] == creditor
                        && toldCoins[paper] == coins && toldRanks[paper] == rank
                        && days[paper] == day) {
                    return true;
                }
            }
            return false;
        }

        int tell(int paper, int what) {
            switch (what) {
                case 0:
                    return debtors[paper];
                case 1:
                    return creditors[paper];
                case 2:
                    return toldCoins[paper];
                case 3:
                    return ranks[paper];
                case 4:
                    return lefts[paper];
                case 5:
                    return days[paper];
                default:
                    return copies[paper] ? 1 : 0;
            }
        }

        int netOf(int man) {
            int sum = 0;
            for (int paper = 0; paper < size; paper++) {
                if (creditors[paper] == man) {
                    sum += lefts[paper];
                }
                if (debtors[paper] == man) {
                    sum -= lefts[paper];
                }
            }
            return sum;
        }

        void handOver(int man, int heir) {
            for (int paper = 0; paper < size; paper++) {
                if (debtors[paper] == man) {
                    debtors[paper] = heir;
                }
                if (creditors[paper] == man) {
                    creditors[paper] = heir;
                }
                if (debtors[paper] == creditors[paper]) {
                    lefts[paper] = 0;
                }
            }
        }

        int obey(Decree decree) {
            int less = 0;
            for (int paper = 0; paper < size; paper++) {
                int left = decree.leftOf(lefts[paper], ranks[paper], days[paper]);
                less += lefts[paper] - left;
                lefts[paper] = left;
                ranks[paper] = decree.rankFor(ranks[paper], days[paper]);
            }
            return less;
        }

        int leftInAll() {
            int sum = 0;
            for (int paper = 0; paper < size; paper++) {
                sum += lefts[paper];
            }
            return sum;
        }
    }

    /** THREAD and its MOVES, worked out anew from the NETS of the moment. */
    private static final class Balance {
        private final int[] open = new int[MOST_MEN];
        private final int[] payers = new int[MOST_MEN];
        private final int[] getters = new int[MOST_MEN];
        private final int[] coins = new int[MOST_MEN];
        private int moves = 0;

        void workOut(Town town) {
            moves = 0;
            for (int man = 0; man < town.men; man++) {
                open[man] = town.papers.netOf(man);
            }
            for (int payer = 0; payer < town.men; payer++) {
                for (int getter = 0; getter < town.men && open[payer] < 0; getter++) {
                    if (open[getter] > 0) {
                        addMove(payer, getter);
                    }
                }
            }
        }

        private void addMove(int payer, int getter) {
            if (moves >= MOST_MEN) {
                return;
            }
            int moved = Math.min(-open[payer], open[getter]);
            open[payer] += moved;
            open[getter] -= moved;
            payers[moves] = payer;
            getters[moves] = getter;
            coins[moves] = moved;
            moves++;
        }

        // All NETS together are 0, so the MOVES bring just the NETS above 0.
        int coinsMoved() {
            int sum = 0;
            for (int k = 0; k < moves; k++) {
                sum += coins[k];
            }
            return sum;
        }

        int tell(int k, int what) {
            if (k < 0 || k >= moves) {
                return NONE;
            }
            switch (what) {
                case 0:
                    return payers[k];
                case 1:
                    return getters[k];
                case 2:
                    return coins[k];
                default:
                    return NONE;
            }
        }
    }

    /** What a TEXT says; NONE stands for what it doesn't tell. */
    private static final class Decree {
        private final int[] cuts = new int[RANKS];
        private final int[] moves = new int[RANKS];
        private int spare;
        private int before;
        private int lines;

        Decree() {
            empty();
        }

        void empty() {
            Arrays.fill(cuts, NONE);
            Arrays.fill(moves, NONE);
            spare = NONE;
            before = NONE;
            lines = 0;
        }

        private boolean reaches(int day) {
            return before == NONE || day < before;
        }

        int leftOf(int left, int rank, int day) {
            int above = spare == NONE ? left : left - spare;
            if (!reaches(day) || cuts[rank] == NONE || above <= 0) {
                return left;
            }
            return left - above * cuts[rank] / 100;
        }

        int rankFor(int rank, int day) {
            return reaches(day) && moves[rank] != NONE ? moves[rank] : rank;
        }
    }

    /** Who pays what if all pay at once. */
    private static final class Clearing {
        // A ROUND unlike the one ahead takes a coin at least off what is paid.
        private static final int MOST_ROUNDS = MOST_PAPERS * MOST_COINS + 1;

        private final int[] paid = new int[MOST_PAPERS];
        private final int[] order = new int[MOST_PAPERS];
        private final int[] has = new int[MOST_MEN];
        private final int[] unpaid = new int[MOST_MEN];
        private final int[] failed = new int[MOST_MEN];
        private final int[] lost = new int[MOST_MEN];
        private final int[] lastInOrder = new int[MOST_MEN];
        private int men = 0;
        private int papers = 0;
        private int rounds = NONE;

        void work(Town town, Decree decree) {
            takeStock(town);
            takeAllAsPaid(town.papers, decree);
            putInOrder(town.papers, decree);
            boolean changed = true;
            for (int round = 1; round <= MOST_ROUNDS && changed; round++) {
                changed = goRound(town.papers, round);
                if (changed) {
                    rounds = round;
                }
            }
        }

        private void takeStock(Town town) {
            men = town.men;
            papers = town.papers.size;
            rounds = 0;
            for (int man = 0; man < men; man++) {
                has[man] = town.purses[man];
                unpaid[man] = 0;
                failed[man] = 0;
                lost[man] = 0;
                lastInOrder[man] = papers - 1;
            }
        }

        private void takeAllAsPaid(Papers all, Decree decree) {
            for (int paper = 0; paper < papers; paper++) {
                int due = decree.leftOf(all.lefts[paper], all.ranks[paper], all.days[paper]);
                paid[paper] = due;
                has[all.debtors[paper]] -= due;
                has[all.creditors[paper]] += due;
            }
        }

        private void putInOrder(Papers all, Decree decree) {
            int place = 0;
            for (int rank = 0; rank < RANKS; rank++) {
                for (int paper = 0; paper < papers && place < MOST_PAPERS; paper++) {
                    if (decree.rankFor(all.ranks[paper], all.days[paper]) == rank) {
                        order[place] = paper;
                        place++;
                    }
                }
            }
        }

        // What a man gets only ever shrinks from ROUND to ROUND, so it is enough
        // that those who are short pay so much less, the last in ORDER first.
        private boolean goRound(Papers all, int round) {
            boolean changed = false;
            for (int man = 0; man < men; man++) {
                if (has[man] < 0) {
                    payLess(all, man, -has[man]);
                    failed[man] = failed[man] == 0 ? round : failed[man];
                    changed = true;
                }
            }
            loseWhatIsNotPaid();
            return changed;
        }

        private void payLess(Papers all, int man, int by) {
            int open = by;
            for (int place = lastInOrder[man]; place >= 0 && open > 0; place--) {
                int paper = order[place];
                if (all.debtors[paper] == man) {
                    int less = Math.min(open, paid[paper]);
                    paid[paper] -= less;
                    lost[all.creditors[paper]] += less;
                    open -= less;
                }
                // The way back is long with many ROUNDS: the next one goes on from here.
                lastInOrder[man] = place;
            }
            has[man] += by;
            unpaid[man] += by;
        }

        // Apart from the payers' loop: a ROUND goes by what came in the ROUND ahead.
        private void loseWhatIsNotPaid() {
            for (int man = 0; man < men; man++) {
                has[man] -= lost[man];
                lost[man] = 0;
            }
        }

        int menFailed() {
            int sum = 0;
            for (int man = 0; man < men; man++) {
                sum += failed[man] == 0 ? 0 : 1;
            }
            return sum;
        }

        int coinsPaid() {
            int sum = 0;
            for (int paper = 0; paper < papers; paper++) {
                sum += paid[paper];
            }
            return sum;
        }

        int tell(int what, int k) {
            if (k < 0 || k >= (what == 0 ? papers : men)) {
                return NONE;
            }
            switch (what) {
                case 0:
                    return paid[k];
                case 1:
                    return has[k];
                case 2:
                    return failed[k];
                case 3:
                    return unpaid[k];
                default:
                    return NONE;
            }
        }
    }

    /** The bytes that were fed and not yet taken for a DECREE. */
    private static final class Tape {
        private final int[] bytes = new int[MOST_BYTES];
        private int length = 0;

        void append(int number) {
            for (int shift = 24; shift >= 0 && length < MOST_BYTES; shift -= 8) {
                bytes[length] = number >>> shift & 255;
                length++;
            }
        }
    }

    /** Reads a TEXT token by token; only the first FAULT along it is kept. */
    private static final class Reader {
        private static final int FAULTLESS = 0;
        private static final int OUT_OF_PLACE = 1;
        private static final int BEYOND = 2;
        private static final int TOLD_ALREADY = 3;

        private static final int BLANK = 0;
        private static final int WORD = 1;
        private static final int NUMBER = 2;
        private static final int SEMICOLON = 3;
        private static final int UNKNOWN = 4;
        private static final int AT_END = 5;

        private static final int MOST_CUT = 100;
        private static final int MOST_SPARE = 999;

        private final int[] text = new int[MOST_BYTES];
        private int length = 0;
        private int kind = AT_END;
        private int start = 0;
        private int next = 0;
        private int fault = FAULTLESS;
        private int faultPlace = NONE;

        void read(Tape tape, int n, Decree draft) {
            length = Math.min(n, tape.length);
            for (int place = 0; place < length; place++) {
                text[place] = tape.bytes[place];
            }
            next = 0;
            fault = FAULTLESS;
            faultPlace = NONE;
            draft.empty();
            step();
            for (int line = 0; line < length && kind != AT_END && fault == FAULTLESS; line++) {
                readLine(draft);
            }
        }

        private void readLine(Decree draft) {
            if (isWord("cut")) {
                readCut(draft);
            } else if (isWord("move")) {
                readMove(draft);
            } else if (isWord("spare")) {
                readSpare(draft);
            } else if (isWord("before")) {
                readBefore(draft);
            } else {
                blame(OUT_OF_PLACE);
            }
            readSemicolon();
            draft.lines++;
        }

        private void readCut(Decree draft) {
            step();
            blameRankOf(draft.cuts);
            int rank = readNumber(RANKS - 1);
            draft.cuts[rank] = readNumber(MOST_CUT);
        }

        private void readMove(Decree draft) {
            step();
            blameRankOf(draft.moves);
            int rank = readNumber(RANKS - 1);
            draft.moves[rank] = readNumber(RANKS - 1);
        }

        private void readSpare(Decree draft) {
            if (draft.spare != NONE) {
                blame(TOLD_ALREADY);
            }
            step();
            draft.spare = readNumber(MOST_SPARE);
        }

        private void readBefore(Decree draft) {
            if (draft.before != NONE) {
                blame(TOLD_ALREADY);
            }
            step();
            draft.before = readNumber(LAST_DAY);
        }

        private void blameRankOf(int[] told) {
            int rank = kind == NUMBER ? numberAtHand() : NONE;
            if (rank >= 0 && rank < told.length && told[rank] != NONE) {
                blame(TOLD_ALREADY);
            }
        }

        // 0 .. most with a FAULT too, so that a RANK may be used as an index at once.
        private int readNumber(int most) {
            int number = kind == NUMBER ? numberAtHand() : 0;
            if (kind != NUMBER) {
                blame(OUT_OF_PLACE);
            } else if (number > most) {
                blame(BEYOND);
                number = 0;
            }
            step();
            return number;
        }

        private void readSemicolon() {
            if (kind != SEMICOLON) {
                blame(OUT_OF_PLACE);
            }
            step();
        }

        private void blame(int what) {
            if (fault == FAULTLESS) {
                fault = what;
                faultPlace = start;
            }
        }

        private boolean isWord(String word) {
            if (kind != WORD || next - start != word.length()) {
                return false;
            }
            for (int place = start; place < next; place++) {
                if (text[place] != word.charAt(place - start)) {
                    return false;
                }
            }
            return true;
        }

        private int numberAtHand() {
            int number = 0;
            for (int place = start; place < next; place++) {
                // No number may be beyond 999, and three hundred digits would wrap around.
                if (number <= 999) {
                    number = number * 10 + text[place] - '0';
                }
            }
            return number;
        }

        private void step() {
            while (next < length && kindOf(text[next]) == BLANK) {
                next++;
            }
            start = next;
            if (start >= length) {
                kind = AT_END;
                return;
            }
            kind = kindOf(text[start]);
            next++;
            while (next < length && isInARow() && kindOf(text[next]) == kind) {
                next++;
            }
        }

        private boolean isInARow() {
            return kind == WORD || kind == NUMBER;
        }

        private static int kindOf(int sign) {
            if (sign == 10 || sign == 32) {
                return BLANK;
            }
            if (sign >= 'a' && sign <= 'z') {
                return WORD;
            }
            if (sign >= '0' && sign <= '9') {
                return NUMBER;
            }
            return sign == ';' ? SEMICOLON : UNKNOWN;
        }
    }
}
