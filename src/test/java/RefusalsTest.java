import java.util.ArrayList;
import java.util.List;
import java.util.function.Supplier;

/**
 * Each refusal that the document tells: its number, that it comes first of BAD, NO, FULL, what STATUS counts then,
 * and that nothing else changes: the object is held against another one to which the same was done but for that call.
 */
public final class RefusalsTest extends Checks {
    private static final int BAD = 0, NO = 1, FULL = 2;

    private interface Call {
        long on(FoldedBoard b);
    }

    public static void main(String[] args) {
        board();
        hole();
        holeMayNotBe();
        man();
        manFull();
        put();
        cell();
        pile();
        strength();
        where();
        step();
        stepMayNotBe();
        fold();
        foldMayNotBe();
        state();
        undo();
        folds();
        leaves();
        small();
        reach();
        winsAndBest();
        type();
        typeFull();
        judge();
        image();
        from();
        status();
        count();
        neverRefused();
        end();
    }

    /** 5 wide, 4 high, a HOLE, four MEN, an IMAGE, a GAME without FAULT, one STEP done; OWNER 1 is on turn. */
    private static FoldedBoard ready() {
        FoldedBoard b = new FoldedBoard();
        b.board(5, 4);
        b.hole(22);
        b.put(0, 2);
        b.put(1, 3);
        b.man(4, 0, 5, 0);
        b.man(1, 1, 3, 21);
        b.man(0, 0, 2, 8);
        b.man(2, 1, 4, 14);
        b.image(0);
        tell(b, "step 3 3 0 1;fold 0 4 0;");
        b.step(0, 0, 1, 1);
        return b;
    }

    /** One STEP more: three FOLDS are DUE. */
    private static FoldedBoard dueNow() {
        FoldedBoard b = ready();
        b.step(3, 3, 0, 1);
        return b;
    }

    /** One of them is made, two are DUE. */
    private static FoldedBoard folding() {
        FoldedBoard b = dueNow();
        b.fold(0, 4, 0);
        return b;
    }

    /** All of them are made. */
    private static FoldedBoard folded() {
        FoldedBoard b = folding();
        b.fold(1, 3, 0);
        b.fold(0, 1, 1);
        return b;
    }

    /** Eight MEN, 200 bytes, eight MOVES to undo. */
    private static FoldedBoard full() {
        FoldedBoard b = new FoldedBoard();
        b.put(0, 9);
        for (int i = 0; i < 8; i++) {
            b.man(i % 5, i % 2, 9, 5 * i);
        }
        for (int i = 0; i < 8; i++) {
            int m = i % 2;
            b.step(m == 0 ? 0 : 5, i / 2 % 2, i / 2 % 2 == 0 ? 2 : 0, 1);
        }
        tell(b, "step 1 2 3 1;".repeat(15) + "     ");
        return b;
    }

    /** A MAN of OWNER 1 (number 1) is TAKEN, OWNER 0 has WON. */
    private static FoldedBoard takenOne() {
        FoldedBoard b = new FoldedBoard();
        b.board(2, 2);
        b.man(0, 0, 9, 0);
        b.man(0, 1, 1, 1);
        b.step(0, 0, 1, 1);
        return b;
    }

    private static FoldedBoard faulty() {
        FoldedBoard b = ready();
        tell(b, "step 3 3 0 1;fold 0 4;");
        return b;
    }

    private static List<Supplier<FoldedBoard>> everywhere() {
        return List.of(FoldedBoard::new, RefusalsTest::ready, RefusalsTest::dueNow, RefusalsTest::folding,
            RefusalsTest::folded, RefusalsTest::full, RefusalsTest::takenOne);
    }

    /** All that can be asked for but STATUS; what may be undone and the IMAGES come last, as they change it. */
    private static List<Long> seen(FoldedBoard b) {
        List<Long> all = new ArrayList<>();
        all.add(b.digest());
        for (int i = 0; i < 36 * 4; i++) {
            all.add((long) b.cell(i / 4, i % 4));
        }
        for (int i = 0; i < 8; i++) {
            all.add((long) b.where(i));
            all.add((long) b.strength(i));
            all.add((long) b.state(i));
        }
        for (int i = -1; i < 20; i++) {
            all.add((long) b.folds(i));
        }
        all.add((long) b.habit());
        all.add((long) b.safe());
        all.add((long) b.fault());
        all.add((long) b.judge());
        all.add((long) b.small(5));
        all.add((long) b.wins(1));
        for (int i = 0; i < 9; i++) {
            all.add((long) b.undo());
            all.add(b.digest());
        }
        for (int i = 0; i < 2; i++) {
            all.add((long) b.from(i));
            all.add(b.digest());
            all.add((long) b.undo());
            all.add(b.digest());
        }
        return all;
    }

    private static void refused(Supplier<FoldedBoard> make, String name, Call call, long answer, int reason) {
        FoldedBoard b = make.get();
        int[] before = {b.status(0), b.status(1), b.status(2)};
        before[reason]++;
        due(name, call.on(b), answer);
        dueStatus(b, before[0], before[1], before[2]);
        FoldedBoard twin = make.get();
        due(name + " changes nothing but STATUS: 1", seen(b).equals(seen(twin)) ? 1 : 0, 1);
    }

    private static void refusedEverywhere(String name, Call call, long answer, int reason) {
        for (Supplier<FoldedBoard> make : everywhere()) {
            refused(make, name, call, answer, reason);
        }
    }

    private static void board() {
        sentence("`int board(int w, int h)`: THE BOARD anew, flat: no HOLES, no MEN, no MOVES, nothing to undo: how many CELLS. BAD.");
        int[][] bad = {{1, 2}, {2, 1}, {7, 6}, {6, 7}, {0, 0}, {-2, -2}, {LOW, 3}, {3, LOW}, {HIGH, 3}, {3, HIGH}, {258, 3}};
        for (int[] p : bad) {
            refusedEverywhere("board(" + p[0] + ", " + p[1] + ")", b -> b.board(p[0], p[1]), -2, BAD);
        }
    }

    private static void hole() {
        sentence("`int hole(int cell)`: A HOLE: 1. BAD;");
        for (int c : new int[] {-1, -6, 36, 37, LOW, HIGH}) {
            refusedEverywhere("hole(" + c + ")", b -> b.hole(c), -2, BAD);
        }
        // beside and below 5 wide, 4 high; BAD is ahead of NO, while FOLDS are DUE and folded, too
        for (int c : new int[] {5, 11, 23, 24, 28, 35}) {
            refused(RefusalsTest::ready, "hole(" + c + ")", b -> b.hole(c), -2, BAD);
            refused(RefusalsTest::dueNow, "hole(" + c + ")", b -> b.hole(c), -2, BAD);
            refused(RefusalsTest::folded, "hole(" + c + ")", b -> b.hole(c), -2, BAD);
        }
    }

    private static void holeMayNotBe() {
        sentence("NO: there is one, a MAN stands there, it is folded, FOLDS are DUE.");
        refused(RefusalsTest::ready, "hole(22), there is one", b -> b.hole(22), -3, NO);
        for (int c : new int[] {1, 21, 8, 14}) {
            refused(RefusalsTest::ready, "hole(" + c + "), a MAN", b -> b.hole(c), -3, NO);
        }
        for (int c : new int[] {0, 2, 20, 21}) {
            refused(RefusalsTest::dueNow, "hole(" + c + "), DUE", b -> b.hole(c), -3, NO);
            refused(RefusalsTest::folding, "hole(" + c + "), DUE and folded", b -> b.hole(c), -3, NO);
            refused(RefusalsTest::folded, "hole(" + c + "), folded", b -> b.hole(c), -3, NO);
        }
        due("none of these", ready().hole(0), 1);
        due("where one was TAKEN from", takenOne().hole(0), 1);
        refused(RefusalsTest::takenOne, "hole(1), who took stands there", b -> b.hole(1), -3, NO);
    }

    private static void man() {
        sentence("A MAN: his number. BAD: a HOLE, one stands there, too;");
        int[][] bad = {{-1, 0, 1, 2}, {5, 0, 1, 2}, {LOW, 0, 1, 2}, {HIGH, 0, 1, 2}, {0, -1, 1, 2}, {0, 2, 1, 2},
            {0, LOW, 1, 2}, {0, HIGH, 1, 2}, {0, 0, 0, 2}, {0, 0, 10, 2}, {0, 0, -1, 2}, {0, 0, LOW, 2}, {0, 0, HIGH, 2},
            {0, 0, 1, -1}, {0, 0, 1, 36}, {0, 0, 1, LOW}, {0, 0, 1, HIGH}};
        for (int[] p : bad) {
            // with 8 MEN, too: BAD is ahead of FULL
            refusedEverywhere("man(" + p[0] + ", " + p[1] + ", " + p[2] + ", " + p[3] + ")",
                b -> b.man(p[0], p[1], p[2], p[3]), -2, BAD);
        }
        for (int c : new int[] {5, 23, 24, 35}) {
            refused(RefusalsTest::ready, "man on " + c + ", off the board", b -> b.man(0, 0, 1, c), -2, BAD);
        }
        refused(RefusalsTest::ready, "man on a HOLE", b -> b.man(0, 0, 1, 22), -2, BAD);
        refused(RefusalsTest::folded, "man on a HOLE", b -> b.man(0, 0, 1, 22), -2, BAD);
        for (int c : new int[] {1, 21, 8, 14}) {
            refused(RefusalsTest::ready, "man on " + c + ", one stands there", b -> b.man(0, 0, 1, c), -2, BAD);
        }
        refused(RefusalsTest::full, "man where one stands, ahead of FULL", b -> b.man(0, 0, 1, 10), -2, BAD);
        refused(RefusalsTest::takenOne, "man where who took stands", b -> b.man(0, 0, 1, 1), -2, BAD);
    }

    private static void manFull() {
        sentence("one stands there, too; FULL: 8.");
        refused(RefusalsTest::full, "a ninth", b -> b.man(0, 0, 1, 1), -4, FULL);
        refused(RefusalsTest::full, "a ninth", b -> b.man(4, 1, 9, 34), -4, FULL);
        // the TAKEN count
        Supplier<FoldedBoard> taken = () -> {
            FoldedBoard b = takenOne();
            b.board(6, 6);
            for (int i = 0; i < 8; i++) {
                b.man(0, i % 2, 9 - i, i);
            }
            b.step(0, 0, 1, 1);
            return b;
        };
        due("where(1)", taken.get().where(1), -1);
        refused(taken, "a ninth, one is TAKEN", b -> b.man(0, 0, 1, 35), -4, FULL);
    }

    private static void put() {
        sentence("EVERY (0), TIMES (1): what it was. BAD.");
        int[][] bad = {{0, 0}, {0, 10}, {0, -1}, {0, LOW}, {0, HIGH}, {1, 0}, {1, 4}, {1, -1}, {1, LOW}, {1, HIGH},
            {-1, 1}, {2, 1}, {LOW, 1}, {HIGH, 1}, {-1, 0}, {2, 99}};
        for (int[] p : bad) {
            refusedEverywhere("put(" + p[0] + ", " + p[1] + ")", b -> b.put(p[0], p[1]), -2, BAD);
        }
    }

    private static void cell() {
        sentence("whether DOWN (3: 1, 0). BAD: a HOLE, too: -1000.");
        int[][] bad = {{-1, 0}, {36, 0}, {LOW, 0}, {HIGH, 0}, {0, -1}, {0, 4}, {0, LOW}, {0, HIGH}, {-1, -1}};
        for (int[] p : bad) {
            refusedEverywhere("cell(" + p[0] + ", " + p[1] + ")", b -> b.cell(p[0], p[1]), -1000, BAD);
        }
        for (int what = 0; what < 4; what++) {
            int w = what;
            refused(RefusalsTest::ready, "cell(22, " + w + "), a HOLE", b -> b.cell(22, w), -1000, BAD);
            refused(RefusalsTest::folded, "cell(22, " + w + "), a HOLE", b -> b.cell(22, w), -1000, BAD);
            refused(RefusalsTest::ready, "cell(5, " + w + "), off the board", b -> b.cell(5, w), -1000, BAD);
            refused(RefusalsTest::ready, "cell(24, " + w + "), off the board", b -> b.cell(24, w), -1000, BAD);
        }
    }

    private static void pile() {
        sentence("the i-th from below. -5: not so many. BAD: -10.");
        for (int i : new int[] {-2, -3, LOW}) {
            refusedEverywhere("pile(0, 0, " + i + ")", b -> b.pile(0, 0, i), -10, BAD);
            refusedEverywhere("pile(99, 99, " + i + ")", b -> b.pile(99, 99, i), -10, BAD);
        }
    }

    private static void strength() {
        sentence("STRENGTH of a MAN. BAD: TAKEN, too.");
        for (int m : new int[] {-1, 8, LOW, HIGH}) {
            refusedEverywhere("strength(" + m + ")", b -> b.strength(m), -2, BAD);
        }
        refused(FoldedBoard::new, "strength(0), no MEN", b -> b.strength(0), -2, BAD);
        refused(RefusalsTest::ready, "strength(4) of four", b -> b.strength(4), -2, BAD);
        refused(RefusalsTest::takenOne, "strength(1), TAKEN", b -> b.strength(1), -2, BAD);
    }

    private static void where() {
        sentence("The CELL of a MAN. NONE: TAKEN. BAD.");
        for (int m : new int[] {-1, 8, LOW, HIGH}) {
            refusedEverywhere("where(" + m + ")", b -> b.where(m), -2, BAD);
        }
        refused(FoldedBoard::new, "where(0), no MEN", b -> b.where(0), -2, BAD);
        refused(RefusalsTest::ready, "where(4) of four", b -> b.where(4), -2, BAD);
        FoldedBoard b = takenOne();
        due("where(1), TAKEN", b.where(1), -1);
        dueStatus(b, 0, 0, 0);
    }

    private static void step() {
        sentence("A STEP: the MAN that is TAKEN, or NONE. BAD (w 0 .. 3, d 1, 2): -10;");
        int[][] bad = {{3, 3, -1, 1}, {3, 3, 4, 1}, {3, 3, LOW, 1}, {3, 3, HIGH, 1}, {3, 3, 0, 0}, {3, 3, 0, 3},
            {3, 3, 0, -1}, {3, 3, 0, LOW}, {3, 3, 0, HIGH}, {99, 99, 4, 1}, {LOW, HIGH, 0, 3}, {0, 0, -1, 0}};
        for (int[] p : bad) {
            // ahead of NO: nobody is there, FOLDS are DUE, too
            refusedEverywhere("step(" + p[0] + ", " + p[1] + ", " + p[2] + ", " + p[3] + ")",
                b -> b.step(p[0], p[1], p[2], p[3]), -10, BAD);
        }
    }

    private static void stepMayNotBe() {
        sentence("NO: it may not be: -20.");
        int[][] no = {{0, 0, 1, 1}, {1, 0, 1, 1}, {3, 3, 2, 1}, {3, 3, 1, 1}, {3, 3, 0, 2}, {-1, 0, 1, 1}, {99, 3, 0, 1},
            {LOW, LOW, 0, 1}, {LOW, LOW, 3, 2}, {HIGH, HIGH, 1, 2}, {HIGH, HIGH, 2, 1}, {5, 3, 3, 1}, {4, 3, 3, 1}};
        for (int[] p : no) {
            refused(RefusalsTest::ready, "step(" + p[0] + ", " + p[1] + ", " + p[2] + ", " + p[3] + ")",
                b -> b.step(p[0], p[1], p[2], p[3]), -20, NO);
        }
        refused(RefusalsTest::dueNow, "while DUE", b -> b.step(1, 0, 1, 1), -20, NO);
        refused(RefusalsTest::folding, "while DUE", b -> b.step(1, 0, 1, 1), -20, NO);
        refused(RefusalsTest::takenOne, "who has none", b -> b.step(1, 0, 2, 1), -20, NO);
        refused(FoldedBoard::new, "no MEN", b -> b.step(0, 0, 1, 1), -20, NO);
        due("one that may be", ready().step(3, 3, 0, 1), -1);
        due("state(2) behind it", dueNow().state(2), 3);
    }

    private static void fold() {
        sentence("A FOLD that is DUE: how many are DUE still. BAD;");
        int[][] bad = {{-1, 1, 0}, {2, 1, 0}, {LOW, 1, 0}, {HIGH, 1, 0}, {0, 1, -1}, {0, 1, 2}, {0, 1, LOW}, {0, 1, HIGH},
            {2, 99, 0}, {0, 99, 2}, {2, LOW, 2}};
        for (int[] p : bad) {
            // ahead of NO: none is DUE, it may not be, too
            refusedEverywhere("fold(" + p[0] + ", " + p[1] + ", " + p[2] + ")", b -> b.fold(p[0], p[1], p[2]), -2, BAD);
        }
    }

    private static void foldMayNotBe() {
        sentence("NO: none is DUE, it may not be.");
        refused(FoldedBoard::new, "none is DUE", b -> b.fold(0, 1, 0), -3, NO);
        refused(RefusalsTest::ready, "none is DUE", b -> b.fold(0, 1, 0), -3, NO);
        refused(RefusalsTest::folded, "none is DUE more", b -> b.fold(0, 2, 0), -3, NO);
        due("though it might be", folded().folds(0), 220);
        int[][] no = {{0, 0, 0}, {0, 0, 1}, {0, 5, 0}, {0, 5, 1}, {1, 0, 0}, {1, 4, 1}, {0, -1, 0}, {0, LOW, 0}, {0, LOW, 1},
            {0, HIGH, 0}, {0, HIGH, 1}, {1, LOW, 0}, {1, HIGH, 1}};
        for (int[] p : no) {
            refused(RefusalsTest::dueNow, "fold(" + p[0] + ", " + p[1] + ", " + p[2] + ")",
                b -> b.fold(p[0], p[1], p[2]), -3, NO);
        }
        refused(RefusalsTest::folding, "the last column lies on the one ahead", b -> b.fold(0, 4, 0), -3, NO);
        due("fold(0, 3, 0)", folding().fold(0, 3, 0), 1);
    }

    private static void state() {
        sentence("who has WON (5; NONE: nobody). BAD: -10.");
        for (int what : new int[] {-1, 6, LOW, HIGH}) {
            refusedEverywhere("state(" + what + ")", b -> b.state(what), -10, BAD);
        }
    }

    private static void undo() {
        sentence("`int undo()`: UNDO: 1. NO: none may be.");
        refused(FoldedBoard::new, "undo()", FoldedBoard::undo, -3, NO);
        Supplier<FoldedBoard> undone = () -> {
            FoldedBoard b = ready();
            b.undo();
            return b;
        };
        refused(undone, "undo() behind all", FoldedBoard::undo, -3, NO);
        Supplier<FoldedBoard> eight = () -> {
            FoldedBoard b = full();
            for (int i = 0; i < 8; i++) {
                b.undo();
            }
            return b;
        };
        due("count(3)", full().count(3), 8);
        refused(eight, "undo() behind eight", FoldedBoard::undo, -3, NO);
    }

    private static void folds() {
        sentence("and 10 times (line and 20), and the way. -5: not so many. BAD: -10.");
        for (int i : new int[] {-2, -3, LOW}) {
            refusedEverywhere("folds(" + i + ")", b -> b.folds(i), -10, BAD);
        }
    }

    private static void leaves() {
        sentence("LEAVES of the i-th of ALL FOLDS. BAD: not so many, too.");
        int[][] bad = {{-1, 0}, {20, 0}, {LOW, 0}, {HIGH, 0}, {0, -1}, {0, 2}, {0, LOW}, {0, HIGH}, {-1, 2}};
        for (int[] p : bad) {
            refusedEverywhere("leaves(" + p[0] + ", " + p[1] + ")", b -> b.leaves(p[0], p[1]), -2, BAD);
        }
        for (Supplier<FoldedBoard> make : everywhere()) {
            int many = make.get().folds(-1);
            refused(make, "leaves(" + many + ", 0)", b -> b.leaves(many, 0), -2, BAD);
            due("the last one is there: 1", make.get().leaves(many - 1, 0) >= 0 ? 1 : 0, 1);
        }
        refused(Checks::foldedInThree, "leaves(0, 0), there is none", b -> b.leaves(0, 0), -2, BAD);
    }

    private static void small() {
        sentence("SMALL. NONE. BAD (k 1 .. 36).");
        for (int k : new int[] {0, 37, -1, LOW, HIGH}) {
            refusedEverywhere("small(" + k + ")", b -> b.small(k), -2, BAD);
        }
    }

    private static void reach() {
        sentence("REACH. BAD: nobody is there, too.");
        for (int n : new int[] {-1, 10, LOW, HIGH}) {
            refusedEverywhere("reach(1, 0, " + n + ")", b -> b.reach(1, 0, n), -2, BAD);
        }
        int[][] nobody = {{99, 0, 1}, {0, 99, 1}, {LOW, LOW, 0}, {HIGH, HIGH, 9}, {1, 1, 1}};
        for (int[] p : nobody) {
            refusedEverywhere("reach(" + p[0] + ", " + p[1] + ", " + p[2] + ")", b -> b.reach(p[0], p[1], p[2]), -2, BAD);
        }
        refused(RefusalsTest::ready, "reach of a HOLE", b -> b.reach(4, 3, 1), -2, BAD);
        refused(RefusalsTest::takenOne, "reach of where one came from", b -> b.reach(0, 0, 1), -2, BAD);
    }

    private static void winsAndBest() {
        sentence("`int wins(int n)`: WINS. BAD.");
        for (int n : new int[] {-1, 4, LOW, HIGH}) {
            refusedEverywhere("wins(" + n + ")", b -> b.wins(n), -2, BAD);
        }
        sentence("10 times the WAY, and how far. NONE. BAD.");
        for (int n : new int[] {-1, 4, LOW, HIGH}) {
            refusedEverywhere("best(" + n + ")", b -> b.best(n), -2, BAD);
        }
    }

    private static void type() {
        sentence("come to THE GAME: how many it has. BAD;");
        for (int n : new int[] {0, 9, -1, LOW, HIGH}) {
            // with 200 bytes, too: BAD is ahead of FULL
            refusedEverywhere("type(32, " + n + ")", b -> b.type(32, n), -2, BAD);
        }
    }

    private static void typeFull() {
        sentence("how many it has. BAD; FULL.");
        due("count(2)", full().count(2), 200);
        for (int n = 1; n <= 8; n++) {
            int many = n;
            refused(RefusalsTest::full, "type(.., " + n + ")", b -> b.type(32, many), -4, FULL);
            for (int room = 0; room < 8; room++) {
                int bytes = 200 - room;
                Supplier<FoldedBoard> nearly = () -> {
                    FoldedBoard b = new FoldedBoard();
                    tell(b, " ".repeat(bytes));
                    return b;
                };
                if (n > room) {
                    refused(nearly, "type(.., " + n + ") behind " + bytes, b -> b.type(-1, many), -4, FULL);
                } else {
                    due("type(.., " + n + ") behind " + bytes, nearly.get().type(-1, n), bytes + n);
                }
            }
        }
    }

    private static void judge() {
        sentence("JUDGE. NONE. NO: a FAULT.");
        due("fault()", faulty().fault(), 21);
        refused(RefusalsTest::faulty, "judge()", FoldedBoard::judge, -3, NO);
        Supplier<FoldedBoard> early = () -> {
            FoldedBoard b = folding();
            tell(b, "fold 0 3 0");
            return b;
        };
        refused(early, "judge(), it ends too early", FoldedBoard::judge, -3, NO);
        due("none", ready().judge(), -1);
    }

    private static void image() {
        sentence("An IMAGE is kept: 1. BAD.");
        for (int i : new int[] {-1, 2, LOW, HIGH}) {
            refusedEverywhere("image(" + i + ")", b -> b.image(i), -2, BAD);
        }
    }

    private static void from() {
        sentence("It goes on from an IMAGE: 1. BAD; NO: none was kept.");
        for (int i : new int[] {-1, 2, LOW, HIGH}) {
            // though none was kept: BAD is ahead of NO
            refusedEverywhere("from(" + i + ")", b -> b.from(i), -2, BAD);
        }
        refusedEverywhere("from(1)", b -> b.from(1), -3, NO);
        refused(FoldedBoard::new, "from(0)", b -> b.from(0), -3, NO);
        due("from(0)", ready().from(0), 1);
    }

    private static void status() {
        sentence("STATUS: BAD (0), NO (1), FULL (2). -1: another what (counts as BAD).");
        for (int what : new int[] {-1, 3, LOW, HIGH}) {
            refusedEverywhere("status(" + what + ")", b -> b.status(what), -1, BAD);
        }
    }

    private static void count() {
        sentence("3 that may be undone. BAD.");
        for (int what : new int[] {-1, 4, LOW, HIGH}) {
            refusedEverywhere("count(" + what + ")", b -> b.count(what), -2, BAD);
        }
    }

    private static void neverRefused() {
        sentence("Refused, changing nothing but STATUS, the first of: BAD -2 a number is not as told; NO -3 as told;"
            + " FULL -4 (where others are told they count as these).");
        // calls that tell no refusal, with any numbers, and -5, which is none
        int[] any = {LOW, -1000, -10, -5, -4, -3, -2, -1, 0, 1, 5, 6, 36, 1000, HIGH};
        for (Supplier<FoldedBoard> make : everywhere()) {
            FoldedBoard b = make.get();
            int[] before = {b.status(0), b.status(1), b.status(2)};
            for (int v : any) {
                b.ruler(v, 0);
                b.ruler(0, v);
                b.pile(v, v, 0);
                b.pile(v, v, -1);
                b.pile(0, 0, Math.max(-1, v));
                b.folds(Math.max(-1, v));
            }
            due("habit() told: 1", b.habit() >= -1 ? 1 : 0, 1);
            due("safe() told: 1", b.safe() >= 0 ? 1 : 0, 1);
            due("fault() told: 1", b.fault() >= -1 ? 1 : 0, 1);
            due("clear() told: 1", b.clear() >= 0 ? 1 : 0, 1);
            b.digest();
            dueStatus(b, before[0], before[1], before[2]);
        }
    }
}
