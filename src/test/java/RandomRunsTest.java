import java.util.ArrayList;
import java.util.Arrays;
import java.util.HashSet;
import java.util.List;
import java.util.Random;
import java.util.Set;

/** Many runs of calls by chance, each answer compared with that of a model as literal as the document. */
public final class RandomRunsTest {
    private static final int RUNS = 4000;
    // A text of 300 bytes: decree(0), fifteen times feed, decree, and fault twice.
    private static final int MOST_CALLS_OF_A_STEP = 19;

    public static void main(String[] args) {
        for (int seed = 0; seed < RUNS; seed++) {
            new RandomRunsTest(seed).run();
        }
        Due.finish("RandomRunsTest");
    }

    private final int seed;
    private final Random chance;
    private final Counted book = new Counted();
    private final Model model = new Model();
    // Small towns and sums make copies, rings and failures likely.
    private final int menWanted;
    private final int coinsWanted;

    private RandomRunsTest(int seed) {
        this.seed = seed;
        chance = new Random(seed);
        menWanted = 2 + chance.nextInt(10);
        coinsWanted = new int[] {3, 40, 999}[chance.nextInt(3)];
    }

    private void run() {
        // The edges of the rows are only reached by towns that are full from early on.
        boolean full = chance.nextInt(3) == 0;
        for (int early = 0; full && early < 60; early++) {
            if (early < 12) {
                stepMan();
            } else {
                stepPaper();
            }
        }
        while (book.calls() + MOST_CALLS_OF_A_STEP <= Counted.MOST_CALLS) {
            step();
        }
        while (book.calls() < Counted.MOST_CALLS) {
            stepOfOneCall();
        }
    }

    private void due(String what, long want, long got) {
        Due.due("seed " + seed + " call " + book.calls() + ": " + what, want, got);
    }

    private int odd(int least, int most) {
        switch (chance.nextInt(40)) {
            case 0:
                return least - 1;
            case 1:
                return most + 1;
            case 2:
                return chance.nextInt();
            case 3:
                return chance.nextBoolean() ? Integer.MIN_VALUE : Integer.MAX_VALUE;
            default:
                return least + chance.nextInt(most - least + 1);
        }
    }

    private int someMan() {
        return odd(0, Math.max(0, model.purses.size() - 1));
    }

    private int somePaper() {
        return odd(0, Math.max(0, model.papers.size() - 1));
    }

    private void step() {
        if (chance.nextInt(12) == 0) {
            stepDecree(Texts.some(chance));
        } else {
            stepOfOneCall();
        }
    }

    private void stepOfOneCall() {
        switch (chance.nextInt(22)) {
            case 0:
                stepMan();
                break;
            case 1:
            case 2:
                stepPaper();
                break;
            case 3:
                stepLook();
                break;
            case 4:
                stepPass();
                break;
            case 5:
                int purseOf = someMan();
                due("purse", model.purse(purseOf), book.purse(purseOf));
                break;
            case 6:
                int netOf = someMan();
                due("net", model.net(netOf), book.net(netOf));
                break;
            case 7:
                due("thread", model.thread(), book.thread());
                break;
            case 8:
                int k = odd(0, 8);
                int what = odd(0, 2);
                due("move", model.move(k, what), book.move(k, what));
                break;
            case 9:
                stepBoat();
                break;
            case 10:
                stepHeir();
                break;
            case 11:
                stepFeed();
                break;
            case 12:
                int n = odd(0, 300);
                due("decree " + n, model.decree(n), book.decree(n));
                break;
            case 13:
            case 14:
                boolean beside = chance.nextBoolean();
                due("clear", model.clear(beside), book.clear(beside));
                break;
            case 15:
                stepEnact();
                break;
            case 16:
                if (chance.nextInt(3) == 0) {
                    due("end", model.end(), book.end());
                }
                break;
            case 17:
                int faultWhat = odd(0, 1);
                due("fault", model.fault(faultWhat), book.fault(faultWhat));
                break;
            case 18:
                int countWhat = odd(0, 6);
                due("count " + countWhat, model.count(countWhat), book.count(countWhat));
                break;
            default:
                stepCleared();
        }
    }

    private void stepMan() {
        if (model.purses.size() < menWanted || chance.nextInt(20) == 0) {
            int purse = chance.nextInt(3) == 0 ? odd(0, 99999) : chance.nextInt(2 * coinsWanted);
            due("man", model.man(purse), book.man(purse));
        }
    }

    private void stepPaper() {
        int debtor = someMan();
        int creditor = someMan();
        int coins = odd(1, coinsWanted);
        int rank = odd(0, 3);
        due("paper", model.paper(debtor, creditor, coins, rank), book.paper(debtor, creditor, coins, rank));
    }

    private void stepLook() {
        int paper = somePaper();
        int what = odd(0, 6);
        due("look " + paper + " " + what, model.look(paper, what), book.look(paper, what));
    }

    private void stepPass() {
        int days = chance.nextInt(40) == 0 ? odd(0, 999) : chance.nextInt(2);
        due("pass", model.pass(days), book.pass(days));
    }

    private void stepBoat() {
        if (chance.nextInt(3) == 0) {
            int gain = odd(0, chance.nextInt(10) == 0 ? 9999 : 2 * coinsWanted);
            int captain = someMan();
            int parts = odd(1, 9);
            int crew = chance.nextInt(1 << model.purses.size() + 1);
            if (chance.nextInt(4) != 0) {
                crew &= (1 << model.purses.size()) - 1;
                crew &= captain >= 0 && captain < 10 ? ~(1 << captain) : -1;
            }
            due("boat", model.boat(gain, captain, parts, crew), book.boat(gain, captain, parts, crew));
        }
    }

    private void stepHeir() {
        if (chance.nextInt(6) == 0) {
            int man = someMan();
            int heir = someMan();
            due("heir", model.heir(man, heir) ? 1 : 0, book.heir(man, heir) ? 1 : 0);
        }
    }

    private void stepDecree(String text) {
        if (model.tape.size() > 0) {
            due("decree(0)", model.decree(0), book.decree(0));
        }
        int[] numbers = new int[(text.length() + 19) / 20 * 5];
        for (int at = 0; at < numbers.length * 4; at++) {
            numbers[at / 4] = numbers[at / 4] << 8 | (at < text.length() ? text.charAt(at) : chance.nextInt(256));
        }
        for (int at = 0; at < numbers.length; at += 5) {
            int[] five = Arrays.copyOfRange(numbers, at, at + 5);
            due("feed", model.feed(five), book.feed(five[0], five[1], five[2], five[3], five[4]));
        }
        due("decree " + text, model.decree(text.length()), book.decree(text.length()));
        due("fault of " + text, model.fault(0), book.fault(0));
        due("place of " + text, model.fault(1), book.fault(1));
    }

    private void stepFeed() {
        int[] five = {chance.nextInt(), 0x20202020, 0x6375742b, 0x30203520, 0x3b0a3939};
        due("feed", model.feed(five), book.feed(five[0], five[1], five[2], five[3], five[4]));
    }

    private void stepEnact() {
        if (chance.nextInt(3) == 0) {
            due("enact", model.enact(), book.enact());
        }
    }

    private void stepCleared() {
        int what = odd(0, 3);
        int k = what == 0 ? somePaper() : someMan();
        due("cleared " + what + " " + k, model.cleared(what, k), book.cleared(what, k));
    }

    /** Texts by chance: right ones, and right ones with something put wrong. */
    private static final class Texts {
        static String some(Random chance) {
            StringBuilder text = new StringBuilder();
            int lines = chance.nextInt(7);
            for (int line = 0; line < lines; line++) {
                addLine(text, chance);
            }
            int wounds = chance.nextInt(3) == 0 ? 1 + chance.nextInt(2) : 0;
            for (int wound = 0; wound < wounds && text.length() > 0; wound++) {
                wound(text, chance);
            }
            return text.length() > 300 ? text.substring(0, 300) : text.toString();
        }

        private static void addLine(StringBuilder text, Random chance) {
            switch (chance.nextInt(7)) {
                case 0:
                case 1:
                case 2:
                    add(text, chance, "cut", rank(chance), number(chance, 100));
                    break;
                case 3:
                case 4:
                    add(text, chance, "move", rank(chance), rank(chance));
                    break;
                case 5:
                    add(text, chance, "spare", number(chance, chance.nextBoolean() ? 20 : 999));
                    break;
                default:
                    add(text, chance, "before", number(chance, chance.nextBoolean() ? 20 : 999));
            }
        }

        private static void add(StringBuilder text, Random chance, String... tokens) {
            for (int at = 0; at < tokens.length; at++) {
                boolean blank = at > 1 || chance.nextInt(4) != 0;
                text.append(at == 0 || !blank ? "" : chance.nextBoolean() ? " " : "\n ").append(tokens[at]);
            }
            text.append(chance.nextInt(8) == 0 ? " ; " : ";");
        }

        private static String rank(Random chance) {
            return (chance.nextInt(20) == 0 ? "0" : "") + chance.nextInt(chance.nextInt(30) == 0 ? 6 : 4);
        }

        private static String number(Random chance, int most) {
            int way = chance.nextInt(40);
            return way == 0 ? String.valueOf(most + 1)
                    : way == 1 ? String.valueOf(most)
                    : way == 2 ? "4294967297"
                    : way == 3 ? "000000000000007"
                    : String.valueOf(chance.nextInt(most + 1));
        }

        private static void wound(StringBuilder text, Random chance) {
            int at = chance.nextInt(text.length());
            switch (chance.nextInt(4)) {
                case 0:
                    text.deleteCharAt(at);
                    break;
                case 1:
                    text.setLength(at);
                    break;
                case 2:
                    text.setCharAt(at, (char) chance.nextInt(256));
                    break;
                default:
                    text.insert(at, "; 0cutX\t".charAt(chance.nextInt(8)));
            }
        }
    }

    /** A PAPER of the model. */
    private static final class Note {
        List<Integer> told;
        int debtor;
        int creditor;
        int coins;
        int rank;
        int left;
        int day;
        boolean copy;

        Note(int debtor, int creditor, int coins, int rank, int day) {
            told = Arrays.asList(debtor, creditor, coins, rank, day);
            this.debtor = debtor;
            this.creditor = creditor;
            this.coins = coins;
            this.rank = rank;
            this.day = day;
            left = coins;
        }

        Note(Note other) {
            this(other.debtor, other.creditor, other.coins, other.rank, other.day);
            left = other.left;
        }
    }

    /** The lines of a DECREE, {verb, first, second}, or its FAULT. */
    private static final class Ruling {
        List<int[]> lines = new ArrayList<>();
        int fault = 0;
        int place = -1;

        Ruling(String text) {
            List<int[]> found = new ArrayList<>();
            parse(text, found);
            // the first along the text, of one place the least
            for (int[] one : found) {
                if (fault == 0 || one[1] < place || one[1] == place && one[0] < fault) {
                    fault = one[0];
                    place = one[1];
                }
            }
        }

        private void parse(String text, List<int[]> found) {
            java.util.regex.Matcher token = java.util.regex.Pattern
                    .compile("[ \\n]*(?:([a-z]+)|([0-9]+)|(;)|([^ \\n]))", java.util.regex.Pattern.DOTALL)
                    .matcher(text);
            Set<String> told = new HashSet<>();
            String shape = "";
            String verb = "";
            int[] line = {0, 0, 0};
            int at = 0;
            while (at < text.length() && token.find(at) && token.start() == at) {
                at = token.end();
                if (shape.isEmpty()) {
                    verb = token.group(1) == null ? "" : token.group(1);
                    shape = verb.equals("cut") ? "Rc;" : verb.equals("move") ? "Rr;"
                            : verb.equals("spare") ? "n;" : verb.equals("before") ? "n;" : "";
                    if (shape.isEmpty()) {
                        found.add(new int[] {1, startOf(token)});
                        return;
                    }
                    if (shape.equals("n;") && !told.add(verb)) {
                        found.add(new int[] {3, startOf(token)});
                    }
                    line = new int[] {verb.charAt(0), 0, 0};
                    continue;
                }
                char want = shape.charAt(0);
                if (want == ';' ? token.group(3) == null : token.group(2) == null) {
                    found.add(new int[] {1, startOf(token)});
                    return;
                }
                if (want == ';') {
                    lines.add(line);
                } else {
                    java.math.BigInteger value = new java.math.BigInteger(token.group(2));
                    int most = want == 'c' ? 100 : want == 'n' ? 999 : 3;
                    if (value.compareTo(java.math.BigInteger.valueOf(most)) > 0) {
                        found.add(new int[] {2, startOf(token)});
                    }
                    if (want == 'R' && !told.add(verb + value)) {
                        found.add(new int[] {3, startOf(token)});
                    }
                    line[want == 'R' || want == 'n' ? 1 : 2] = value.intValue();
                }
                shape = shape.substring(1);
            }
            if (!shape.isEmpty()) {
                found.add(new int[] {1, text.length()});
            }
        }

        private static int startOf(java.util.regex.Matcher token) {
            for (int group = 1; group <= 4; group++) {
                if (token.group(group) != null) {
                    return token.start(group);
                }
            }
            throw new IllegalStateException();
        }

        /** What the DECREE makes of the papers: copies with other LEFT and RANK. */
        List<Note> of(List<Note> papers) {
            int spare = 0;
            int before = Integer.MAX_VALUE;
            for (int[] line : lines) {
                spare = line[0] == 's' ? line[1] : spare;
                before = line[0] == 'b' ? line[1] : before;
            }
            List<Note> made = new ArrayList<>();
            for (Note paper : papers) {
                Note note = new Note(paper);
                made.add(note);
                if (paper.day >= before) {
                    continue;
                }
                for (int[] line : lines) {
                    if (line[0] == 'c' && line[1] == paper.rank && paper.left > spare) {
                        note.left = paper.left - (int) Math.floor((paper.left - spare) * line[2] / 100.0);
                    }
                    if (line[0] == 'm' && line[1] == paper.rank) {
                        note.rank = line[2];
                    }
                }
            }
            return made;
        }
    }

    /** A CLEARING by the letter: whole rounds of payments, each out of the one ahead. */
    private static final class Rounds {
        final int[] purses;
        final List<Note> papers;
        int[] paid;
        final int[] fails;
        int last = 0;

        Rounds(List<Integer> men, List<Note> papers) {
            purses = men.stream().mapToInt(Integer::intValue).toArray();
            this.papers = papers;
            paid = papers.stream().mapToInt(paper -> paper.left).toArray();
            fails = new int[purses.length];
            List<List<Integer>> orders = new ArrayList<>();
            for (int man = 0; man < purses.length; man++) {
                orders.add(order(man));
            }
            for (int round = 1; true; round++) {
                int[] now = new int[paid.length];
                for (int man = 0; man < purses.length; man++) {
                    int can = purses[man] + got(man);
                    for (int paper : orders.get(man)) {
                        now[paper] = Math.min(can, papers.get(paper).left);
                        can -= now[paper];
                        if (now[paper] < papers.get(paper).left && fails[man] == 0) {
                            fails[man] = round;
                        }
                    }
                }
                if (Arrays.equals(now, paid)) {
                    return;
                }
                paid = now;
                last = round;
            }
        }

        private List<Integer> order(int man) {
            List<Integer> his = new ArrayList<>();
            for (int paper = 0; paper < papers.size(); paper++) {
                if (papers.get(paper).debtor == man) {
                    his.add(paper);
                }
            }
            his.sort((a, b) -> papers.get(a).rank != papers.get(b).rank
                    ? papers.get(a).rank - papers.get(b).rank : a - b);
            return his;
        }

        int got(int man) {
            int sum = 0;
            for (int paper = 0; paper < paid.length; paper++) {
                sum += papers.get(paper).creditor == man ? paid[paper] : 0;
            }
            return sum;
        }

        int pays(int man) {
            int sum = 0;
            for (int paper = 0; paper < paid.length; paper++) {
                sum += papers.get(paper).debtor == man ? paid[paper] : 0;
            }
            return sum;
        }

        int owes(int man) {
            int sum = 0;
            for (Note paper : papers) {
                sum += paper.debtor == man ? paper.left : 0;
            }
            return sum;
        }

        int has(int man) {
            return purses[man] + got(man) - pays(man);
        }
    }

    /** The whole book, as the document tells it. */
    private static final class Model {
        final List<Integer> purses = new ArrayList<>();
        final List<Note> papers = new ArrayList<>();
        final List<Integer> tape = new ArrayList<>();
        int today = 0;
        Ruling atHand = null;
        Ruling latest = null;
        Rounds clearing = null;

        boolean isMan(int man) {
            return man >= 0 && man < purses.size();
        }

        int feed(int[] five) {
            if (tape.size() > 280) {
                return -1;
            }
            for (int number : five) {
                for (byte one : java.nio.ByteBuffer.allocate(4).putInt(number).array()) {
                    tape.add(one & 255);
                }
            }
            return tape.size();
        }

        int man(int purse) {
            if (purse < 0 || purse > 99999 || purses.size() == 10) {
                return -1;
            }
            purses.add(purse);
            return purses.size() - 1;
        }

        int paper(int debtor, int creditor, int coins, int rank) {
            if (!isMan(debtor) || !isMan(creditor) || debtor == creditor || coins < 1 || coins > 999
                    || rank < 0 || rank > 3 || papers.size() == 40) {
                return -1;
            }
            Note note = new Note(debtor, creditor, coins, rank, today);
            note.copy = papers.stream().anyMatch(other -> other.told.equals(note.told));
            note.left = note.copy ? 0 : coins;
            papers.add(note);
            return papers.size() - 1;
        }

        long look(int paper, int what) {
            if (paper < 0 || paper >= papers.size()) {
                return Long.MIN_VALUE;
            }
            Note note = papers.get(paper);
            int[] all = {note.debtor, note.creditor, note.coins, note.rank, note.left, note.day, note.copy ? 1 : 0};
            return what < 0 || what > 6 ? Long.MAX_VALUE : all[what];
        }

        int pass(int days) {
            if (days < 0 || (long) today + days > 999) {
                return -1;
            }
            today += days;
            return today;
        }

        int purse(int man) {
            return isMan(man) ? purses.get(man) : -1;
        }

        int net(int man) {
            return isMan(man) ? netOf(man) : Integer.MIN_VALUE;
        }

        int netOf(int man) {
            int sum = 0;
            for (Note note : papers) {
                sum += (note.creditor == man ? note.left : 0) - (note.debtor == man ? note.left : 0);
            }
            return sum;
        }

        int thread() {
            int sum = 0;
            for (int man = 0; man < purses.size(); man++) {
                sum += Math.max(0, netOf(man));
            }
            return sum;
        }

        int move(int k, int what) {
            int[] open = new int[purses.size()];
            for (int man = 0; man < open.length; man++) {
                open[man] = netOf(man);
            }
            List<int[]> moves = new ArrayList<>();
            int payer = 0;
            int getter = 0;
            while (payer < open.length && getter < open.length) {
                if (open[payer] >= 0) {
                    payer++;
                } else if (open[getter] <= 0) {
                    getter++;
                } else {
                    int coins = Math.min(-open[payer], open[getter]);
                    open[payer] += coins;
                    open[getter] -= coins;
                    moves.add(new int[] {payer, getter, coins});
                }
            }
            return k < 0 || k >= moves.size() || what < 0 || what > 2 ? -1 : moves.get(k)[what];
        }

        int boat(int gain, int captain, int parts, int crew) {
            if (gain < 0 || gain > 9999 || !isMan(captain) || parts < 1 || parts > 9
                    || crew < 0 || crew >= 1 << purses.size() || (crew & 1 << captain) != 0) {
                return -1;
            }
            int hands = 0;
            for (int man = 0; man < purses.size(); man++) {
                hands += (crew & 1 << man) != 0 ? 1 : 0;
            }
            int part = gain / (parts + hands);
            for (int man = 0; man < purses.size(); man++) {
                if ((crew & 1 << man) != 0) {
                    purses.set(man, purses.get(man) + part);
                }
            }
            int remains = gain - part * (parts + hands);
            purses.set(captain, purses.get(captain) + parts * part + remains);
            return part;
        }

        boolean heir(int man, int heir) {
            if (!isMan(man) || !isMan(heir) || man == heir) {
                return false;
            }
            for (Note note : papers) {
                if (note.debtor == man && note.creditor == heir || note.debtor == heir && note.creditor == man) {
                    note.left = 0;
                }
                note.debtor = note.debtor == man ? heir : note.debtor;
                note.creditor = note.creditor == man ? heir : note.creditor;
            }
            purses.set(heir, purses.get(heir) + purses.get(man));
            purses.set(man, 0);
            return true;
        }

        int decree(int n) {
            if (n < 0 || n > tape.size()) {
                return -2;
            }
            StringBuilder text = new StringBuilder();
            for (int at = 0; at < n; at++) {
                text.append((char) tape.get(at).intValue());
            }
            tape.clear();
            latest = new Ruling(text.toString());
            if (latest.fault != 0) {
                return -1;
            }
            atHand = latest;
            return latest.lines.size();
        }

        int fault(int what) {
            return what == 0 ? latest == null ? 0 : latest.fault : what == 1 && latest != null ? latest.place : -1;
        }

        int clear(boolean beside) {
            Ruling ruling = beside && atHand != null ? atHand : new Ruling("");
            clearing = new Rounds(purses, ruling.of(papers));
            return (int) Arrays.stream(clearing.fails).filter(round -> round > 0).count();
        }

        int cleared(int what, int k) {
            if (clearing == null || what < 0 || what > 3 || k < 0
                    || k >= (what == 0 ? clearing.paid.length : clearing.purses.length)) {
                return -1;
            }
            return what == 0 ? clearing.paid[k] : what == 1 ? clearing.has(k) : what == 2 ? clearing.fails[k]
                    : clearing.owes(k) - clearing.pays(k);
        }

        int enact() {
            if (atHand == null) {
                return -1;
            }
            List<Note> made = atHand.of(papers);
            int less = 0;
            for (int paper = 0; paper < made.size(); paper++) {
                less += papers.get(paper).left - made.get(paper).left;
                papers.get(paper).left = made.get(paper).left;
                papers.get(paper).rank = made.get(paper).rank;
            }
            atHand = null;
            return less;
        }

        int end() {
            if (today == 999) {
                return -1;
            }
            Rounds rounds = new Rounds(purses, new Ruling("").of(papers));
            for (int man = 0; man < purses.size(); man++) {
                purses.set(man, rounds.has(man));
            }
            for (int paper = 0; paper < papers.size(); paper++) {
                papers.get(paper).left -= rounds.paid[paper];
            }
            today++;
            return Arrays.stream(rounds.paid).sum();
        }

        int count(int what) {
            switch (what) {
                case 0:
                    return purses.size();
                case 1:
                    return papers.size();
                case 2:
                    return today;
                case 3:
                    return papers.stream().mapToInt(note -> note.left).sum();
                case 4:
                    return purses.stream().mapToInt(Integer::intValue).sum();
                case 5:
                    return clearing == null ? -1 : clearing.last;
                case 6:
                    return atHand == null ? -1 : atHand.lines.size();
                default:
                    return -1;
            }
        }
    }
}
