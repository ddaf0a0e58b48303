import java.util.ArrayList;
import java.util.List;
import java.util.function.ToLongFunction;

/** Each call that is refused leaves all as it was: a book with it tells the same as one without it. */
public final class RefusedCallsTest {
    private static final int NONE = AdvanceBook.NONE;
    private static final int NO_NET = Integer.MIN_VALUE;

    /** A call that this town refuses, and what it answers then. */
    private record Refused(String name, long want, ToLongFunction<Counted> call) {
    }

    /** The kinds of towns, and what of each decides which calls are refused. */
    private enum Kind {
        EMPTY(0, 0, 0, 0, 0), FEW(3, 2, 5, 20, 2), FULL(10, 40, 999, 300, 9);

        private final int men;
        private final int papers;
        private final int today;
        private final int bytes;
        private final int moves;

        Kind(int men, int papers, int today, int bytes, int moves) {
            this.men = men;
            this.papers = papers;
            this.today = today;
            this.bytes = bytes;
            this.moves = moves;
        }

        Counted build() {
            Counted book = new Counted();
            for (int man = 0; man < men; man++) {
                book.man(man % 3 == 0 ? 7 * man : 0);
            }
            for (int paper = 0; paper < papers; paper++) {
                // the last one tells the same as the first
                int told = paper == papers - 1 && this == FULL ? 0 : paper;
                int debtor = told % (men - 1);
                int creditor = told % 5 == 4 ? (debtor + 1) % (men - 1) : men - 1;
                book.paper(debtor, creditor, 1 + told * 19, told % 4);
            }
            if (this != EMPTY) {
                book.decree("cut 0 10;move 1 2;spare 3;");
                book.clear(true);
                // a latest FAULT, so that it can be seen to stay
                book.decree("spare 5;spare");
                book.pass(today);
            }
            for (int fed = 0; fed < bytes; fed += 20) {
                book.feedText(fed == 0 ? "cut 1 50;move 0 3;  " : "                    ");
            }
            return book;
        }
    }

    public static void main(String[] args) {
        for (Kind kind : Kind.values()) {
            Due.says("As the document says of refused calls: \"and nothing happens\" (" + kind + ")");
            isAsItShouldBe(kind);
            for (Refused refused : refusedBy(kind)) {
                Counted with = kind.build();
                Counted without = kind.build();
                Due.due(refused.name, refused.want, refused.call.applyAsLong(with));
                compare(kind, refused.name, with, without);
            }
        }
        Due.finish("RefusedCallsTest");
    }

    private static void isAsItShouldBe(Kind kind) {
        Counted book = kind.build();
        Due.due("MEN", kind.men, book.count(0));
        Due.due("PAPERS", kind.papers, book.count(1));
        Due.due("TODAY", kind.today, book.count(2));
        Due.due("MOVES", true, book.move(kind.moves - 1, 0) != NONE || kind.moves == 0);
        Due.due("no more MOVES", NONE, book.move(kind.moves, 0));
        Due.due("LINES", kind == Kind.EMPTY ? NONE : 3, book.count(6));
        Due.due("FAULT", kind == Kind.EMPTY ? 0 : 3, book.fault(0));
        Due.due("bytes", kind.bytes == 300 ? NONE : kind.bytes + 20, book.feed(0, 0, 0, 0, 0));
    }

    private static List<Refused> refusedBy(Kind kind) {
        List<Refused> all = new ArrayList<>();
        addMenAndPapers(all, kind);
        addWrongPapers(all, kind);
        addLooksAndDays(all, kind);
        addMoves(all, kind);
        addBoats(all, kind);
        addHeirs(all, kind);
        addDecrees(all, kind);
        addClearings(all, kind);
        return all;
    }

    private static int[] noMen(Kind kind) {
        return Bounds.outside(0, kind.men - 1);
    }

    private static void add(List<Refused> all, String name, long want, ToLongFunction<Counted> call) {
        all.add(new Refused(name, want, call));
    }

    private static void addMenAndPapers(List<Refused> all, Kind kind) {
        for (int purse : Bounds.outside(0, 99999)) {
            add(all, "man(" + purse + ")", NONE, book -> book.man(purse));
        }
        for (int man : noMen(kind)) {
            add(all, "purse(" + man + ")", NONE, book -> book.purse(man));
            add(all, "net(" + man + ")", NO_NET, book -> book.net(man));
        }
        if (kind == Kind.FULL) {
            add(all, "an eleventh man", NONE, book -> book.man(0));
            add(all, "an eleventh rich man", NONE, book -> book.man(99999));
            add(all, "a 41st paper", NONE, book -> book.paper(0, 1, 500, 0));
            add(all, "a 41st paper, a copy", NONE, book -> book.paper(0, 9, 1, 0));
        }
    }

    private static void addWrongPapers(List<Refused> all, Kind kind) {
        for (int man : noMen(kind)) {
            add(all, "paper of " + man, NONE, book -> book.paper(man, 0, 5, 0));
            add(all, "paper to " + man, NONE, book -> book.paper(0, man, 5, 0));
            add(all, "paper of and to " + man, NONE, book -> book.paper(man, man, 5, 0));
        }
        for (int man = 0; man < kind.men; man++) {
            int same = man;
            add(all, "paper of a man to himself " + man, NONE, book -> book.paper(same, same, 5, 0));
        }
        for (int coins : Bounds.outside(1, 999)) {
            add(all, "paper of coins " + coins, NONE, book -> book.paper(0, 1, coins, 0));
        }
        for (int rank : Bounds.outside(0, 3)) {
            add(all, "paper of rank " + rank, NONE, book -> book.paper(0, 1, 5, rank));
        }
    }

    private static void addLooksAndDays(List<Refused> all, Kind kind) {
        for (int paper : Bounds.outside(0, kind.papers - 1)) {
            for (int what : new int[] {-1, 0, 6, 7}) {
                add(all, "look(" + paper + ", " + what + ")", Due.NO_PAPER, book -> book.look(paper, what));
            }
        }
        for (int what : Bounds.outside(0, 6)) {
            long want = kind.papers == 0 ? Due.NO_PAPER : Due.NO_WHAT;
            add(all, "look(0, " + what + ")", want, book -> book.look(0, what));
            add(all, "count(" + what + ")", NONE, book -> book.count(what));
        }
        for (int days : Bounds.outside(0, 999 - kind.today)) {
            add(all, "pass(" + days + ")", NONE, book -> book.pass(days));
        }
        if (kind.today == 999) {
            add(all, "end()", NONE, Counted::end);
        }
    }

    private static void addMoves(List<Refused> all, Kind kind) {
        for (int k : Bounds.outside(0, kind.moves - 1)) {
            for (int what = 0; what <= 2; what++) {
                int asked = what;
                add(all, "move(" + k + ", " + what + ")", NONE, book -> book.move(k, asked));
            }
        }
        for (int what : Bounds.outside(0, 2)) {
            add(all, "move(0, " + what + ")", NONE, book -> book.move(0, what));
        }
    }

    private static void addBoats(List<Refused> all, Kind kind) {
        for (int gain : Bounds.outside(0, 9999)) {
            add(all, "boat of gain " + gain, NONE, book -> book.boat(gain, 0, 1, 2));
        }
        for (int captain : noMen(kind)) {
            add(all, "boat of captain " + captain, NONE, book -> book.boat(90, captain, 1, 0));
        }
        for (int parts : Bounds.outside(1, 9)) {
            add(all, "boat of parts " + parts, NONE, book -> book.boat(90, 0, parts, 2));
        }
        for (int bit = kind.men; bit < 32; bit++) {
            int crew = 1 << bit | (kind.men > 1 ? 2 : 0);
            add(all, "boat of crew " + crew, NONE, book -> book.boat(90, 0, 1, crew));
        }
        for (int man = 0; man < kind.men; man++) {
            int captain = man;
            int everyone = (1 << kind.men) - 1;
            add(all, "boat of a crew with captain " + man, NONE, book -> book.boat(90, captain, 1, everyone));
        }
        for (int crew : new int[] {-1, -2, Bounds.MIN, Bounds.MAX, 1}) {
            add(all, "boat of crew " + crew, NONE, book -> book.boat(90, 0, 1, crew));
        }
    }

    private static void addHeirs(List<Refused> all, Kind kind) {
        for (int man : noMen(kind)) {
            add(all, "heir(" + man + ", 0)", 0, book -> book.heir(man, 0) ? 1 : 0);
            add(all, "heir(0, " + man + ")", 0, book -> book.heir(0, man) ? 1 : 0);
            add(all, "heir(" + man + ", " + man + ")", 0, book -> book.heir(man, man) ? 1 : 0);
        }
        for (int man = 0; man < kind.men; man++) {
            int same = man;
            add(all, "heir of himself " + man, 0, book -> book.heir(same, same) ? 1 : 0);
        }
    }

    private static void addDecrees(List<Refused> all, Kind kind) {
        for (int n : Bounds.outside(0, kind.bytes)) {
            add(all, "decree(" + n + ")", -2, book -> book.decree(n));
        }
        for (int what : Bounds.outside(0, 1)) {
            add(all, "fault(" + what + ")", NONE, book -> book.fault(what));
        }
        if (kind == Kind.EMPTY) {
            add(all, "enact()", NONE, Counted::enact);
        }
        if (kind.bytes == 300) {
            add(all, "feed(0, 0, 0, 0, 0)", NONE, book -> book.feed(0, 0, 0, 0, 0));
            add(all, "feed(MIN ..)", NONE, book -> book.feed(Bounds.MIN, -1, Bounds.MAX, 1, Bounds.MIN));
        }
    }

    private static void addClearings(List<Refused> all, Kind kind) {
        for (int what = 0; what <= 3; what++) {
            int asked = what;
            for (int k : Bounds.outside(0, (what == 0 ? kind.papers : kind.men) - 1)) {
                add(all, "cleared(" + what + ", " + k + ")", NONE, book -> book.cleared(asked, k));
            }
        }
        for (int what : Bounds.outside(0, 3)) {
            add(all, "cleared(" + what + ", 0)", NONE, book -> book.cleared(what, 0));
        }
    }

    private static void compare(Kind kind, String name, Counted with, Counted without) {
        for (int what = 0; what <= 6; what++) {
            Due.due(name + ", then count(" + what + ")", without.count(what), with.count(what));
        }
        for (int what = 0; what <= 1; what++) {
            Due.due(name + ", then fault(" + what + ")", without.fault(what), with.fault(what));
        }
        Due.due(name + ", then thread()", without.thread(), with.thread());
        for (int k = 0; k < kind.moves; k++) {
            for (int what = 0; what <= 2; what++) {
                Due.due(name + ", then move(" + k + ", " + what + ")", without.move(k, what), with.move(k, what));
            }
        }
        compareMen(kind, name, with, without);
        comparePapers(kind, name, with, without);
        compareTapes(kind, name, with, without);
    }

    private static void compareMen(Kind kind, String name, Counted with, Counted without) {
        for (int man = 0; man < kind.men; man++) {
            Due.due(name + ", then purse(" + man + ")", without.purse(man), with.purse(man));
            Due.due(name + ", then net(" + man + ")", without.net(man), with.net(man));
            for (int what = 1; what <= 3; what++) {
                Due.due(name + ", then cleared(" + what + ", " + man + ")", without.cleared(what, man),
                        with.cleared(what, man));
            }
        }
    }

    private static void comparePapers(Kind kind, String name, Counted with, Counted without) {
        for (int paper = 0; paper < kind.papers; paper++) {
            for (int what = 0; what <= 6; what++) {
                Due.due(name + ", then look(" + paper + ", " + what + ")", without.look(paper, what),
                        with.look(paper, what));
            }
            Due.due(name + ", then cleared(0, " + paper + ")", without.cleared(0, paper), with.cleared(0, paper));
        }
    }

    // Last, as it takes the TAPE and the DECREE at hand: both can't be seen otherwise.
    private static void compareTapes(Kind kind, String name, Counted with, Counted without) {
        Due.due(name + ", then clear(true)", without.clear(true), with.clear(true));
        Due.due(name + ", then what the first man owes", without.cleared(3, 0), with.cleared(3, 0));
        Due.due(name + ", then enact()", without.enact(), with.enact());
        int wantFed = without.feed(0x23232323, 0, 0, 0, 0);
        Due.due(name + ", then feed", wantFed, with.feed(0x23232323, 0, 0, 0, 0));
        Due.due(name + ", then decree()", without.decree(kind.bytes), with.decree(kind.bytes));
        Due.due(name + ", then its LINES", without.count(6), with.count(6));
        Due.due(name + ", then its enact()", without.enact(), with.enact());
    }
}
