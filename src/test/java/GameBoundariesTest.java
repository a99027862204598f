/** The document's part 2 (what may be, THE GAME, UNDO, IMAGES): for each sentence that names a boundary case a test of its own. */
public final class GameBoundariesTest extends Checks {
    public static void main(String[] args) {
        allFolds();
        allFoldsDueOrNot();
        leaves();
        safeNow();
        safeBehindEach();
        smallFewest();
        smallOfTheFlatBoard();
        smallNone();
        reachSteps();
        reachNobodyElseMoves();
        reachNobodyIsTaken();
        reachOneFar();
        reachHisOwn();
        winsSteps();
        winsWhateverTheOtherDoes();
        winsByHabit();
        habitFirstOfLikeOnes();
        winsNoStep();
        bestFirst();
        bestNone();
        bytes();
        ended();
        numbers();
        words();
        blanks();
        firstToken();
        wordThatIsNone();
        thirdFigure();
        minusWithoutFigure();
        byteThatBeginsNone();
        endsTooEarly();
        emptyText();
        judgeFirst();
        judgeFromNow();
        judgeStays();
        undoLast();
        undoEight();
        undoNothing();
        images();
        imagesUndo();
        statusCounts();
        end();
    }

    private static void allFolds() {
        sentence("ALL FOLDS that may be now, by axis, line, way rising");
        FoldedBoard b = new FoldedBoard();
        int[] all = new int[20];
        for (int i = 0; i < 20; i++) {
            all[i] = 1000 * (i / 10) + 10 * (i % 10 / 2 + 21) + i % 2;
        }
        dueFolds(b, all);
        b.board(2, 2);
        dueFolds(b, 210, 211, 1210, 1211);
        // lines below 0, and one CELL's breadth by x
        FoldedBoard c = dueAtOnce(3, 2, 3);
        c.fold(0, 1, 0);
        dueFolds(c, 200, 201, 1210, 1211);
        c.fold(0, 0, 0);
        dueFolds(c, 1210, 1211);
        c.fold(1, 1, 0);
        dueFolds(c);
        // no CELL, one CELL
        FoldedBoard d = new FoldedBoard();
        d.board(2, 2);
        holes(d, 0, 1, 6);
        dueFolds(d);
        holes(d, 7);
        dueFolds(d);
    }

    private static void allFoldsDueOrNot() {
        sentence("(DUE or not): LEAVES of one");
        FoldedBoard b = new FoldedBoard();
        b.board(2, 3);
        b.put(0, 1);
        b.put(1, 2);
        b.man(0, 0, 5, 0);
        b.man(0, 1, 5, 1);
        int[] all = {210, 211, 1210, 1211, 1220, 1221};
        dueFolds(b, all);
        b.step(0, 0, 2, 1);
        due("state(2)", b.state(2), 2);
        dueFolds(b, all);
        due("fold(1, 2, 0)", b.fold(1, 2, 0), 1);
        dueFolds(b, 210, 211, 1210, 1211);
        due("fold(1, 1, 0)", b.fold(1, 1, 0), 0);
        dueFolds(b, 210, 211);
        // three there are already
        FoldedBoard c = dueAtOnce(6, 2, 3);
        c.fold(0, 5, 0);
        c.fold(0, 4, 0);
        c.fold(0, 3, 0);
        dueFolds(c, 210, 211, 220, 221, 1210, 1211);
        due("none is DUE", c.fold(0, 1, 0), -3);
    }

    private static void leaves() {
        sentence("LEAVES of one: RULERS of an OWNER then.");
        FoldedBoard b = new FoldedBoard();
        b.board(3, 2);
        for (int i = 0; i < 6; i++) {
            due("nobody", b.leaves(i, i % 2), 0);
        }
        b.man(0, 0, 5, 0);
        b.man(0, 0, 4, 2);
        b.man(0, 1, 5, 1);
        // by x at 1: 0 and 1 together, the moved one above; at 2: 1 and 2 together, 1 is the stronger
        int[][] want = {{1, 1}, {2, 0}, {1, 1}, {1, 1}, {2, 1}, {2, 1}};
        for (int i = 0; i < 6; i++) {
            due("leaves(" + i + ", 0)", b.leaves(i, 0), want[i][0]);
            due("leaves(" + i + ", 1)", b.leaves(i, 1), want[i][1]);
        }
        due("state(3)", b.state(3), 0);
        due("leaves(6, 0)", b.leaves(6, 0), -2);
        due("leaves(-1, 0)", b.leaves(-1, 0), -2);
        // behind it STRENGTH is another: the MOLE's 3 more count
        FoldedBoard c = new FoldedBoard();
        c.board(2, 2);
        c.man(2, 0, 3, 0);
        c.man(0, 1, 6, 1);
        int[] moles = {0, 1, 1, 1};
        for (int i = 0; i < 4; i++) {
            due("leaves(" + i + ", 0)", c.leaves(i, 0), moles[i]);
        }
        leavesOfPiles();
        leavesWithoutTheTaken();
    }

    private static void leavesOfPiles() {
        // 3 lies over 0, both alike: where their pile moves, the lower one comes above
        FoldedBoard b = new FoldedBoard();
        b.board(4, 2);
        b.put(0, 1);
        b.man(0, 0, 1, 7);
        b.man(0, 0, 3, 0);
        b.man(0, 1, 3, 3);
        b.step(1, 1, 1, 1);
        b.fold(0, 2, 0);
        due("ruler(0, 0)", b.ruler(0, 0), 2);
        int[][] want = {{1, 1}, {2, 0}, {1, 1}, {2, 0}};
        for (int i = 0; i < 4; i++) {
            due("leaves(" + i + ", 0)", b.leaves(i, 0), want[i][0]);
            due("leaves(" + i + ", 1)", b.leaves(i, 1), want[i][1]);
        }
        // two piles of four, alike on top of both: the pile that moves comes over all of the other
        for (int first = 0; first < 2; first++) {
            FoldedBoard c = dueAtOnce(4, 2, 2);
            c.man(0, first, 9, first == 0 ? 0 : 1);
            c.man(0, 1 - first, 9, first == 0 ? 1 : 0);
            c.fold(0, 2, 0);
            c.fold(1, 1, 1);
            duePile(c, 0, 1, 6, 9, 3, 0);
            duePile(c, 1, 1, 7, 8, 2, 1);
            // the top of the pile that moves comes to lie lowest of it, but over the top of the other
            due("leaves(0, 0)", c.leaves(0, 0), 0);
            due("leaves(0, 1)", c.leaves(0, 1), 1);
            due("leaves(1, 0)", c.leaves(1, 0), 1);
            due("leaves(1, 1)", c.leaves(1, 1), 0);
        }
    }

    private static void leavesWithoutTheTaken() {
        FoldedBoard b = new FoldedBoard();
        b.board(2, 2);
        b.man(0, 0, 9, 0);
        b.man(0, 1, 1, 1);
        b.man(0, 1, 2, 6);
        due("leaves(0, 1)", b.leaves(0, 1), 1);
        due("safe()", b.safe(), 1);
        due("takes", b.step(0, 0, 1, 1), 1);
        for (int i = 0; i < 4; i++) {
            due("leaves(" + i + ", 0)", b.leaves(i, 0), 1);
            due("leaves(" + i + ", 1)", b.leaves(i, 1), 1);
        }
        due("safe()", b.safe(), 5);
    }

    private static void safeNow() {
        sentence("SAFE: a MAN is so, if now");
        FoldedBoard none = new FoldedBoard();
        due("nobody", none.safe(), 0);
        // all lie together, so there is no FOLD: only now counts
        for (int h = 4; h <= 6; h++) {
            FoldedBoard b = new FoldedBoard();
            b.board(2, 2);
            b.put(0, 1);
            b.put(1, 2);
            b.man(0, 0, 5, 0);
            b.man(0, 1, h, 1);
            b.step(0, 0, 2, 1);
            b.fold(0, 1, 0);
            b.fold(1, 1, 0);
            due("folds(-1)", b.folds(-1), 0);
            // 6 and 1: 6 lies above
            duePile(b, 0, 0, 0, 1, 7, 6);
            due("safe() of 5 and " + h, b.safe(), h > 5 ? 2 : 1);
        }
        // now the other one lies above; behind each FOLD his own would rule
        FoldedBoard x = pileOfTwo(7, 0, 1, 3, 1);
        due("ruler(0, 0)", x.ruler(0, 0), 0);
        due("safe()", x.safe(), 4);
        FoldedBoard y = pileOfTwo(1, 6, 0, 2, 0);
        due("ruler(0, 1)", y.ruler(0, 1), 0);
        due("safe()", y.safe(), 4);
        // all eight
        FoldedBoard c = new FoldedBoard();
        for (int i = 0; i < 8; i++) {
            c.man(0, 0, 5, i);
        }
        due("safe() of 8", c.safe(), 255);
        // who is TAKEN has no POSITION
        FoldedBoard d = new FoldedBoard();
        d.man(0, 0, 9, 8);
        d.man(0, 1, 1, 7);
        d.man(0, 1, 1, 0);
        due("takes", d.step(2, 1, 3, 1), 1);
        due("safe()", d.safe(), 5);
    }

    /** 2 by 2: OWNER 0's 5 steps to where he comes to lie over OWNER 1's 5; a 9 of OWNER 1 lies beside. */
    private static FoldedBoard pileOfTwo(int from, int under, int beside, int way, int axis) {
        FoldedBoard b = new FoldedBoard();
        b.board(2, 2);
        b.put(0, 1);
        b.man(0, 0, 5, from);
        b.man(0, 1, 5, under);
        b.man(0, 1, 9, beside);
        due("step", b.step(from % 6, from / 6, way, 1), -1);
        due("fold(" + axis + ", 1, 0)", b.fold(axis, 1, 0), 0);
        return b;
    }

    private static void safeBehindEach() {
        sentence("and behind each FOLD that may be now, the RULER of his POSITION is of his OWNER.");
        // by one FOLD 0 comes together with 1 or with 6, never with 2 or 12
        for (int c : new int[] {1, 6, 2, 12}) {
            FoldedBoard b = new FoldedBoard();
            b.board(3, 3);
            b.man(0, 0, 5, 0);
            b.man(0, 1, 6, c);
            due("safe() with one of 6 on " + c, b.safe(), c == 1 || c == 6 ? 2 : 3);
        }
        // the last FOLD alone does it: by y at 2 of 2 wide, 3 high, way 1
        FoldedBoard b = new FoldedBoard();
        b.board(2, 3);
        b.man(2, 1, 3, 6);
        b.man(0, 0, 5, 12);
        due("folds(5)", b.folds(5), 1221);
        due("leaves(5, 0)", b.leaves(5, 0), 0);
        due("leaves(4, 0)", b.leaves(4, 0), 1);
        due("safe()", b.safe(), 0);
        b.board(2, 3);
        b.man(0, 0, 5, 12);
        b.man(2, 1, 3, 6);
        due("safe(), the other way round", b.safe(), 0);
        // the first FOLD alone does it, by x at 1, way 0
        b.board(2, 2);
        b.man(0, 0, 5, 0);
        b.man(2, 1, 3, 1);
        due("leaves(0, 0)", b.leaves(0, 0), 0);
        due("leaves(1, 0)", b.leaves(1, 0), 1);
        due("safe()", b.safe(), 0);
        // under his own one is safe
        FoldedBoard c = new FoldedBoard();
        c.board(2, 2);
        c.man(0, 1, 1, 0);
        c.man(0, 1, 9, 1);
        due("safe()", c.safe(), 3);
    }

    private static void dueSmall(FoldedBoard b, int... want) {
        for (int k = 1; k <= want.length; k++) {
            due("small(" + k + ")", b.small(k), want[k - 1]);
        }
    }

    private static void smallFewest() {
        sentence("SMALL: the fewest FOLDS (0 .. 3)");
        FoldedBoard b = new FoldedBoard();
        for (int k = 1; k <= 36; k++) {
            due("small(" + k + ") of 6, 6", b.small(k), k == 36 ? 0 : k >= 18 ? 1 : k >= 9 ? 2 : k >= 6 ? 3 : -1);
        }
        b.board(2, 2);
        dueSmall(b, 2, 1, 1, 0, 0);
        b.board(3, 2);
        dueSmall(b, 3, 2, 1, 1, 1, 0, 0);
        b.board(4, 2);
        dueSmall(b, 3, 2, 2, 1, 1, 1, 1, 0);
        b.board(2, 4);
        dueSmall(b, 3, 2, 2, 1, 1, 1, 1, 0);
        b.board(5, 2);
        dueSmall(b, -1, 3, 2, 2, 1, 1, 1, 1, 1, 0);
    }

    private static void smallOfTheFlatBoard() {
        sentence("of the flat board by which its CELLS lie on k POSITIONS at most");
        FoldedBoard b = foldedInThree();
        dueSmall(b, 3, 2, 2, 1, 1, 1, 1, 0);
        due("state(3)", b.state(3), 3);
        // HOLES are no CELLS of it
        FoldedBoard c = new FoldedBoard();
        c.board(3, 2);
        holes(c, 1);
        dueSmall(c, 3, 2, 1, 1, 0);
        holes(c, 7);
        // a missing column: 0 and 2 come together by two FOLDS by x
        dueSmall(c, 3, 1, 1, 0);
        holes(c, 0, 6, 2);
        dueSmall(c, 0);
        holes(c, 8);
        dueSmall(c, 0, 0);
        // two CELLS across a corner, the one way and the other: by x and by y
        c.board(2, 2);
        holes(c, 1, 6);
        dueSmall(c, 2, 0);
        c.board(6, 6);
        for (int i = 0; i < 36; i++) {
            due("hole(" + i + ")", i == 5 || i == 30 ? 1 : c.hole(i), 1);
        }
        dueSmall(c, 2, 0);
        due("count(0)", c.count(0), 2);
    }

    private static void smallNone() {
        sentence("lie on k POSITIONS at most; none.");
        FoldedBoard b = new FoldedBoard();
        due("small(5)", b.small(5), -1);
        due("small(6)", b.small(6), 3);
        b.board(6, 5);
        // 6 columns are 1 by three FOLDS
        due("small(4)", b.small(4), -1);
        due("small(5)", b.small(5), 3);
        due("small(8)", b.small(8), 3);
        due("small(9)", b.small(9), 2);
        b.board(6, 2);
        due("small(1)", b.small(1), -1);
        due("small(2)", b.small(2), 3);
        dueStatus(b, 0, 0, 0);
    }

    private static void reachSteps() {
        sentence("REACH: POSITIONS to which the RULER of one may come by n (0 .. 9) STEPS at most");
        // a way of 13 POSITIONS: 0 to 5, 11, 17 to 12
        FoldedBoard b = new FoldedBoard();
        b.board(6, 3);
        holes(b, 6, 7, 8, 9, 10);
        b.man(0, 0, 1, 0);
        for (int n = -2; n < 13; n++) {
            due("reach(0, 0, " + n + ")", b.reach(0, 0, n), n >= 0 && n <= 9 ? n + 1 : -2);
        }
        b.man(0, 0, 1, 11);
        int[] want = {1, 3, 5, 7, 9, 11, 12, 12, 12, 12};
        for (int n = 0; n < 10; n++) {
            due("reach(5, 1, " + n + ")", b.reach(5, 1, n), want[n]);
        }
        // POSITIONS, not CELLS, wherever they lie
        FoldedBoard c = dueAtOnce(6, 2, 1);
        c.fold(0, 1, 0);
        due("reach(0, 1, 9)", c.reach(0, 1, 9), 10);
        due("reach(0, 1, 1)", c.reach(0, 1, 1), 3);
    }

    private static void reachNobodyElseMoves() {
        sentence("if nobody else moves, no MOVES count");
        FoldedBoard b = line(4);
        b.put(0, 1);
        b.man(0, 1, 5, 0);
        long before = b.digest();
        due("1 is not on turn", b.reach(0, 0, 9), 4);
        b.man(0, 0, 9, 3);
        due("he stays in the way", b.reach(0, 0, 9), 3);
        due("state(0)", b.state(0), 0);
        due("state(2)", b.state(2), 0);
        b.board(4, 2);
        holes(b, 6, 7, 8, 9);
        b.man(0, 1, 5, 0);
        due("digest()", b.digest(), before);
        // FOLDS are DUE
        FoldedBoard c = dueAtOnce(2, 2, 1);
        due("reach(0, 1, 1)", c.reach(0, 1, 1), 3);
        due("reach(0, 1, 2)", c.reach(0, 1, 2), 4);
        due("state(2)", c.state(2), 1);
    }

    private static void reachNobodyIsTaken() {
        sentence("nobody is TAKEN (only POSITIONS without MEN are gone to");
        for (int owner = 0; owner < 2; owner++) {
            FoldedBoard b = line(4);
            b.man(0, 0, 9, 0);
            b.man(0, owner, 1, 2);
            due("up to him", b.reach(0, 0, 9), 2);
            due("where(1)", b.where(1), 2);
            due("from him", b.reach(2, 0, 1), 3);
        }
        FoldedBoard c = line(2);
        c.man(0, 0, 9, 0);
        c.man(0, 1, 1, 1);
        due("nowhere", c.reach(0, 0, 9), 1);
    }

    private static void reachOneFar() {
        sentence("STEPS 1 far)");
        FoldedBoard b = line(6);
        b.man(4, 0, 9, 0);
        for (int n = 0; n < 6; n++) {
            due("reach(0, 0, " + n + ")", b.reach(0, 0, n), n + 1);
        }
        // none over a HOLE
        FoldedBoard c = line(6);
        c.hole(1);
        c.man(4, 0, 9, 0);
        due("reach(0, 0, 9)", c.reach(0, 0, 9), 1);
    }

    private static void reachHisOwn() {
        sentence("how many, his own, too.");
        FoldedBoard b = new FoldedBoard();
        b.man(0, 0, 1, 0);
        due("reach(0, 0, 0)", b.reach(0, 0, 0), 1);
        due("reach(0, 0, 2)", b.reach(0, 0, 2), 6);
        // others lie on his own, too
        FoldedBoard c = dueAtOnce(3, 2, 1);
        c.man(0, 1, 9, 0);
        c.fold(1, 1, 0);
        due("ruler(0, 0)", c.ruler(0, 0), 1);
        due("reach(0, 0, 0)", c.reach(0, 0, 0), 1);
        due("reach(0, 0, 2)", c.reach(0, 0, 2), 3);
    }

    /** A line of so many, the strong one (on turn) at one end, the weak one at the other. */
    private static FoldedBoard chase(int cells) {
        FoldedBoard b = line(cells);
        b.put(0, 9);
        b.man(0, 0, 9, 0);
        b.man(0, 1, 1, cells - 1);
        return b;
    }

    private static void winsSteps() {
        sentence("WINS: by n (0 .. 3) STEPS of both at most");
        int[][] want = {{0, 1, 1, 1}, {0, 0, 0, 0}, {0, 0, 0, 1}, {0, 0, 0, 0}};
        for (int cells = 2; cells < 6; cells++) {
            FoldedBoard b = chase(cells);
            for (int n = -2; n < 6; n++) {
                due("wins(" + n + ") in a line of " + cells, b.wins(n), n < 0 || n > 3 ? -2 : want[cells - 2][n]);
            }
            dueStatus(b, 4, 0, 0);
        }
        // the weak one is on turn: he does not win
        FoldedBoard c = chase(4);
        c.step(0, 0, 1, 1);
        for (int n = 0; n < 4; n++) {
            due("wins(" + n + ")", c.wins(n), 0);
        }
        // two to be TAKEN: as the first is, the second must come beside
        FoldedBoard d = line(4);
        d.man(0, 0, 9, 0);
        d.man(0, 1, 1, 1);
        d.man(0, 1, 1, 3);
        due("wins(2) of two", d.wins(2), 0);
        due("wins(3) of two", d.wins(3), 1);
        due("best(3)", d.best(3), 202011);
        // three to be TAKEN are too many
        FoldedBoard e = line(6);
        e.man(0, 0, 9, 0);
        e.man(0, 1, 1, 1);
        e.man(0, 1, 1, 2);
        e.man(0, 1, 1, 3);
        due("wins(3) of three", e.wins(3), 0);
    }

    private static void winsWhateverTheOtherDoes() {
        sentence("whether who is on turn has WON then, whatever the other one does");
        // one way out is enough for the weak one
        FoldedBoard b = new FoldedBoard();
        b.board(4, 2);
        holes(b, 6, 7, 8);
        b.man(0, 0, 9, 0);
        b.man(0, 1, 1, 3);
        due("he goes down", b.wins(3), 0);
        due("best(3)", b.best(3), -1);
        FoldedBoard c = chase(4);
        due("he must come", c.wins(3), 1);
        // he may take first
        FoldedBoard d = line(4);
        d.man(0, 0, 5, 0);
        d.man(0, 1, 6, 2);
        due("the other one is the stronger", d.wins(3), 0);
    }

    private static void winsByHabit() {
        sentence("FOLDS that are DUE are made by HABIT");
        // EVERY 1: behind the first STEP one is DUE; by HABIT of who is BEHIND (1) they lie apart
        for (int times = 1; times <= 3; times++) {
            FoldedBoard b = new FoldedBoard();
            b.board(6, 2);
            b.put(0, 1);
            b.put(1, times);
            b.man(0, 0, 1, 4);
            b.man(0, 1, 9, 11);
            b.step(4, 0, 1, 1);
            due("state(2)", b.state(2), times);
            due("wins(0)", b.wins(0), 0);
            due("wins(1)", b.wins(1), 1);
            due("state(2)", b.state(2), times);
            due("state(3)", b.state(3), 0);
        }
        // by HABIT the MOLE lies DOWN on the strong one, and rules him: so he is not TAKEN
        FoldedBoard c = new FoldedBoard();
        c.board(2, 2);
        c.put(0, 1);
        c.man(2, 0, 4, 7);
        c.man(0, 1, 5, 0);
        c.step(1, 1, 0, 1);
        due("habit()", c.habit(), 0);
        due("folds(0)", c.folds(0), 210);
        due("wins(1)", c.wins(1), 0);
    }

    private static void habitFirstOfLikeOnes() {
        sentence("the one by which RULERS of who is BEHIND, less those of the other one, are most, of like ones the first of ALL FOLDS");
        FoldedBoard b = new FoldedBoard();
        due("nobody", b.habit(), 0);
        b.man(0, 0, 5, 0);
        due("one", b.habit(), 0);
        // 1 is BEHIND; by x at 1 he is lost, by all others not
        b.board(2, 3);
        b.man(0, 0, 5, 0);
        b.man(0, 1, 4, 1);
        due("the third", b.habit(), 2);
        // fewer of the other one count like more of his own: two of 0 come together by the last line
        b.board(2, 4);
        b.man(0, 0, 5, 12);
        b.man(0, 0, 5, 18);
        b.man(0, 1, 4, 1);
        due("folds(6)", b.folds(6), 1230);
        due("the seventh", b.habit(), 6);
        // who is BEHIND now, though behind the FOLD the other one would be
        b.board(2, 2);
        b.man(2, 0, 4, 0);
        b.man(0, 1, 5, 1);
        due("state(4)", b.state(4), 0);
        due("the MOLE goes over", b.habit(), 1);
        dueStatus(b, 0, 0, 0);
    }

    private static void winsNoStep() {
        sentence("no STEP may be by who is on turn: he has not WON by that, nor the other");
        // the weak one is shut in: he has no STEP
        FoldedBoard b = chase(3);
        due("wins(1)", b.wins(1), 0);
        due("wins(2)", b.wins(2), 0);
        due("wins(3)", b.wins(3), 0);
        b.step(0, 0, 1, 1);
        for (int n = 0; n < 4; n++) {
            due("wins(" + n + ") of who has none", b.wins(n), 0);
            due("best(" + n + ")", b.best(n), -1);
        }
        // nobody has MEN
        FoldedBoard c = new FoldedBoard();
        for (int n = 0; n < 4; n++) {
            due("wins(" + n + ")", c.wins(n), 0);
        }
        // who is on turn has none, the other one has WON
        FoldedBoard d = chase(2);
        d.step(0, 0, 1, 1);
        due("state(5)", d.state(5), 0);
        due("state(1)", d.state(1), 1);
        for (int n = 0; n < 4; n++) {
            due("wins(" + n + ")", d.wins(n), 0);
        }
    }

    private static void bestFirst() {
        sentence("BEST: the first STEP (by y, x of its POSITION, WAY, 1 ahead of 2 far) by which that is so");
        FoldedBoard b = new FoldedBoard();
        b.board(3, 3);
        b.man(0, 1, 1, 7);
        int[][] takers = {{13, 222101}, {8, 212231}, {6, 212011}, {1, 202121}};
        for (int[] t : takers) {
            b.man(0, 0, 9, t[0]);
            due("best(1) with one on " + t[0], b.best(1), t[1]);
        }
        bestWhoeverCameFirst();
        bestBehindATaking();
        bestOfEight();
        // WAY 1
        FoldedBoard c = new FoldedBoard();
        c.board(3, 3);
        c.man(0, 0, 9, 7);
        c.man(0, 1, 1, 8);
        due("best(1)", c.best(1), 212111);
        // 1 far ahead of 2 far: a RUNNER shuts the weak one in by either
        FoldedBoard d = line(5);
        d.man(4, 0, 9, 0);
        d.man(0, 1, 1, 4);
        due("best(1)", d.best(1), -1);
        due("1 far, then he comes to 3, 2 far", d.best(3), 202011);
        FoldedBoard e = line(3);
        e.man(4, 0, 9, 0);
        e.man(0, 1, 1, 2);
        due("2 far alone", e.best(1), 202012);
        // the greatest POSITION of a flat board
        FoldedBoard f = new FoldedBoard();
        f.man(0, 0, 9, 35);
        f.man(0, 1, 1, 34);
        due("best(1)", f.best(1), 252531);
    }

    private static void bestWhoeverCameFirst() {
        int[][] orders = {{0, 1, 2}, {0, 2, 1}, {1, 0, 2}, {1, 2, 0}, {2, 0, 1}, {2, 1, 0}};
        // all may take; all may; the last one by y, x alone may; the first alone may
        int[][] places = {{1, 6, 8}, {6, 8, 13}, {0, 2, 14}, {12, 13, 14}};
        int[] weak = {7, 7, 13, 6};
        int[] want = {202121, 212011, 222231, 222001};
        for (int[] order : orders) {
            for (int i = 0; i < 4; i++) {
                for (int owner = 0; owner < 2; owner++) {
                    FoldedBoard b = new FoldedBoard();
                    b.board(3, 3);
                    if (owner == 0) {
                        b.man(0, 1, 1, weak[i]);
                    }
                    for (int k : order) {
                        b.man(0, 0, 9, places[i][k]);
                    }
                    if (owner == 1) {
                        b.man(0, 1, 1, weak[i]);
                    }
                    due("best(1)", b.best(1), want[i]);
                    due("wins(1)", b.wins(1), 1);
                }
            }
        }
    }

    /** One who is TAKEN has no STEP: 0 and 3, with him between by number, go by x. */
    private static void bestBehindATaking() {
        FoldedBoard b = new FoldedBoard();
        b.board(3, 3);
        b.man(0, 0, 9, 2);
        b.man(0, 0, 1, 1);
        b.man(0, 1, 8, 7);
        b.man(0, 0, 9, 6);
        due("3 comes to 0, 0", b.step(0, 1, 0, 1), -1);
        due("1 is TAKEN", b.step(1, 1, 0, 1), 1);
        due("best(1)", b.best(1), 202011);
        due("wins(1)", b.wins(1), 1);
        due("takes", b.step(0, 0, 1, 1), 2);
        due("state(5)", b.state(5), 0);
    }

    private static void bestOfEight() {
        FoldedBoard b = new FoldedBoard();
        for (int i = 0; i < 8; i++) {
            b.man(4, 0, 9, 4 * i);
        }
        for (int n = 0; n < 4; n++) {
            due("all eight are his: best(" + n + ")", b.best(n), -1);
            due("wins(" + n + ")", b.wins(n), 0);
        }
        // seven, and the last one by y, x takes
        b.board(6, 6);
        for (int i = 0; i < 7; i++) {
            b.man(0, 0, 9, i == 0 ? 35 : i);
        }
        b.man(0, 1, 1, 34);
        due("best(1) of seven", b.best(1), 252531);
        due("wins(1) of seven", b.wins(1), 1);
    }

    private static void bestNone() {
        sentence("none: FOLDS are DUE now, he has WON already, too.");
        FoldedBoard b = chase(2);
        due("best(0)", b.best(0), -1);
        due("best(1)", b.best(1), 202011);
        due("best(3)", b.best(3), 202011);
        FoldedBoard c = new FoldedBoard();
        c.board(6, 2);
        c.put(0, 1);
        c.man(0, 0, 1, 4);
        c.man(0, 1, 9, 11);
        c.step(4, 0, 1, 1);
        due("wins(1), DUE", c.wins(1), 1);
        for (int n = 0; n < 4; n++) {
            due("best(" + n + "), DUE", c.best(n), -1);
        }
        FoldedBoard d = chase(2);
        d.step(0, 0, 1, 1);
        due("best(3), the other one has WON", d.best(3), -1);
        dueStatus(d, 0, 0, 0);
    }

    private static void bytes() {
        sentence("THE GAME is a TEXT (200 bytes at most)");
        FoldedBoard b = new FoldedBoard();
        for (int i = 1; i <= 25; i++) {
            due("type", b.type(0x2020202020202020L, 8), 8 * i);
        }
        due("count(2)", b.count(2), 200);
        due("fault()", b.fault(), -1);
        due("one more", b.type(32, 1), -4);
        due("count(2)", b.count(2), 200);
        dueStatus(b, 0, 0, 1);
        // the last ITEM ends with the last byte
        tell(b, "step 0 0 0 1;".repeat(15) + "    ;");
        due("the 200th byte", b.fault(), 199);
        tell(b, "fold 0 1 0;".repeat(18) + " ;");
        due("the 200th byte", b.fault(), 199);
        tell(b, "fold 0 1 0;".repeat(17) + "step 0 0 0 1;");
        due("an ITEM up to the 200th byte", b.fault(), -1);
        due("judge()", b.judge(), 0);
    }

    private static void dueFault(String text, int want) {
        FoldedBoard b = new FoldedBoard();
        tell(b, text);
        due("fault() of '" + text + "'", b.fault(), want);
        due("status(1)", b.status(1), 0);
        // with no MEN the first ITEM may not be
        boolean empty = text.isBlank();
        due("judge() of '" + text + "'", b.judge(), want != -1 ? -3 : empty ? -1 : 0);
        dueStatus(b, 0, want != -1 ? 1 : 0, 0);
    }

    private static void ended() {
        sentence("of ITEMS, each ended by ; : step x y w d; fold a l s.");
        dueFault("step 0 0 0 1;", -1);
        dueFault("fold 0 0 0;", -1);
        dueFault("step 0 0 0 1;fold 0 0 0;", -1);
        dueFault("step 0 0 0;", 10);
        dueFault("step 0 0 0 1 0;", 13);
        dueFault("fold 0 0;", 8);
        dueFault("fold 0 0 0 0;", 11);
        dueFault("step;", 4);
        dueFault("fold;", 4);
        dueFault("step 0 0 0 1 fold 0 0 0;", 13);
        dueFault("step 0 0 0 1;;", 13);
        dueFault(";step 0 0 0 1;", 0);
    }

    private static void numbers() {
        sentence("Numbers: perhaps - ahead, 1 or 2 figures.");
        for (String n : new String[] {"0", "9", "00", "09", "99", "-0", "-9", "-00", "-99"}) {
            dueFault("step " + n + " 0 0 1;", -1);
            dueFault("fold 0 " + n + " 0;", -1);
        }
        for (String n : new String[] {"-", "--9", "100", "000", "-100", "+9", "- 9"}) {
            dueFault("step " + n + " 0 0 1;", 5);
            dueFault("fold 0 0 " + n + ";", 9);
        }
        // they mean what they say: from 0 -1 down to 0 0, at which nobody is
        FoldedBoard b = dueAtOnce(2, 4, 1);
        b.man(0, 1, 5, 13);
        b.fold(1, 1, 0);
        due("where(1) lies at", b.cell(13, 1), -1);
        tell(b, "step 01 -1 02 01;");
        due("judge()", b.judge(), -1);
        tell(b, "step 1 1 2 1;");
        due("judge()", b.judge(), 0);
        tell(b, "step 1 -01 3 1;");
        due("judge()", b.judge(), -1);
        tell(b, "step 1 -10 2 1;");
        due("judge()", b.judge(), 0);
        tell(b, "step 10 -1 2 1;");
        due("judge()", b.judge(), 0);
        tell(b, "step 1 -1 2 10;");
        due("judge()", b.judge(), 0);
        // 3 lies at 11, 4 and 5 at 12
        FoldedBoard c = dueAtOnce(6, 2, 2);
        c.man(0, 1, 5, 3);
        c.fold(0, 5, 1);
        c.fold(0, 9, 1);
        due("cell(3, 0)", c.cell(3, 0), 11);
        tell(c, "step 11 0 1 1;");
        due("judge()", c.judge(), -1);
        tell(c, "step 12 0 1 1;");
        due("judge()", c.judge(), 0);
        tell(c, "step 10 00 01 01;");
        due("judge()", c.judge(), 0);
    }

    private static void words() {
        sentence("TOKENS: words of letters a .. z, numbers, ;");
        dueFault("astep 0 0 0 1;", 0);
        dueFault("zstep 0 0 0 1;", 0);
        dueFault("stepa 0 0 0 1;", 0);
        dueFault("stepz 0 0 0 1;", 0);
        // signs next to a and z, 0 and 9 end a word or a number
        dueFault("step` 0 0 0 1;", 4);
        dueFault("step{ 0 0 0 1;", 4);
        dueFault("stepA 0 0 0 1;", 4);
        dueFault("step 0/ 0 0 1;", 6);
        dueFault("step 0: 0 0 1;", 6);
        dueFault("step 0 0 0 1:", 12);
        dueFault("step 0 0 0 1<", 12);
        dueFault("step0 0 0 1;", -1);
        dueFault("step-1 0-1 1;", -1);
        dueFault("fold9-9 9;fold0-0-0;", -1);
    }

    private static void blanks() {
        sentence("blanks (32) between.");
        dueFault("   step   0   0   0   1   ;   ", -1);
        dueFault("step 0 0 0 1 ; fold 0 0 0 ; ", -1);
        for (int v : new int[] {0, 9, 10, 13, 31, 33, 127, 128, 160, 255}) {
            dueFault("step" + (char) v + "0 0 0 1;", 4);
            dueFault((char) v + "step 0 0 0 1;", 0);
            dueFault("step 0 0 0 1;" + (char) v, 13);
        }
        // no TOKEN goes on behind a blank
        dueFault("st ep 0 0 0 1;", 0);
        dueFault("step 1 0 0 0 1;", 13);
        dueFault("step - 1 0 0 1;", 5);
    }

    private static void firstToken() {
        sentence("FAULT: the place of the first byte of the first TOKEN that can not stand there");
        dueFault("step 0 step 0 1;", 7);
        dueFault("step 0 ;", 7);
        dueFault("step 0 0 0 1 fold;go", 13);
        dueFault("0 step", 0);
        dueFault("  0", 2);
        dueFault("-1;", 0);
        dueFault("step fold 123 -", 5);
        dueFault("fold 0 1 0; go go", 12);
    }

    private static void wordThatIsNone() {
        sentence("(a word that is none,");
        dueFault("go", 0);
        dueFault(" go;", 1);
        dueFault("ste", 0);
        dueFault("stepp", 0);
        dueFault("fol", 0);
        dueFault("foldd", 0);
        dueFault("s", 0);
        for (String none : new String[] {"atep", "saep", "stap", "stea", "aold", "fald", "foad", "fola"}) {
            dueFault(none + " 0 0 0 1;", 0);
        }
        dueFault("step 0 0 0 1;stop", 13);
        dueFault("step 0 0 0 x;", 11);
    }

    private static void thirdFigure() {
        sentence("a third figure's number,");
        dueFault("step 123 0 0 1;", 5);
        dueFault("step 0 0 0 001;", 11);
        dueFault("step -123 0 0 1;", 5);
        dueFault("step 1234567890 0 0 1;", 5);
        dueFault("step 99999999999999999999 0 0 1;", 5);
        dueFault("step 12 123", 8);
        dueFault("123", 0);
        dueFault("step 12 34 56 78;", -1);
    }

    private static void minusWithoutFigure() {
        sentence("a - without a figure at once,");
        dueFault("-", 0);
        dueFault("step -", 5);
        dueFault("step - ", 5);
        dueFault("step -;", 5);
        dueFault("step -a", 5);
        dueFault("step --1", 5);
        dueFault("step 1- 0 0 1;", 6);
        dueFault("step 0 0 0 -1;", -1);
    }

    private static void byteThatBeginsNone() {
        sentence("a byte that begins none, too)");
        for (int v = 0; v < 256; v++) {
            boolean begins = v == ' ' || v == ';' || v == '-' || v >= '0' && v <= '9' || v >= 'a' && v <= 'z';
            // what may begin a TOKEN is another FAULT there, or none
            int want = !begins ? 5 : v == ' ' ? 8 : v >= '0' && v <= '9' ? 8 : 5;
            FoldedBoard b = new FoldedBoard();
            tell(b, "step " + (char) v + " 1");
            due("fault() with byte " + v, b.fault(), want);
        }
    }

    private static void endsTooEarly() {
        sentence("the TEXT's length, if it ends too early");
        String text = "step 10 -1 2 1;fold 0 -2 1;";
        for (int n = 1; n < text.length(); n++) {
            String part = text.substring(0, n);
            int want = n;
            if (n < 4) {
                want = 0;
            } else if (part.endsWith("-")) {
                want = n - 1;
            } else if (n > 15 && n < 19) {
                want = 15;
            } else if (n == 15) {
                want = -1;
            }
            dueFault(part, want);
        }
        dueFault(text, -1);
        dueFault("step   ", 7);
        dueFault("step 0 0 0 1   ", 15);
        dueFault("step 0 0 0 1;  fold 0 1  ", 25);
        FoldedBoard b = new FoldedBoard();
        tell(b, "step 0 0 0 1;".repeat(15) + "step ");
        due("200 bytes", b.fault(), 200);
        due("judge()", b.judge(), -3);
    }

    private static void emptyText() {
        sentence("(an empty one: none)");
        dueFault("", -1);
        dueFault(" ", -1);
        FoldedBoard b = new FoldedBoard();
        tell(b, "go");
        due("fault()", b.fault(), 0);
        b.clear();
        due("fault()", b.fault(), -1);
        due("judge()", b.judge(), -1);
    }

    private static void dueJudge(FoldedBoard b, String text, int want) {
        tell(b, text);
        due("judge() of '" + text + "'", b.judge(), want);
    }

    private static void judgeFirst() {
        sentence("the first ITEM that may not be (0 on); none.");
        FoldedBoard b = line(6);
        b.man(0, 0, 5, 0);
        b.man(0, 1, 5, 5);
        String there = "step 0 0 1 1;step 5 0 3 1;step 1 0 3 1;step 4 0 1 1;";
        dueJudge(b, there, -1);
        dueJudge(b, there + there.substring(0, 26), -1);
        dueJudge(b, "step 0 0 3 1;" + there, 0);
        dueJudge(b, "step 0 0 1 1;step 0 0 1 1;" + there, 1);
        dueJudge(b, there + "step 0 0 0 1;", 4);
        // the seventh MOVE makes one DUE: then no STEP, one FOLD, and no other
        String seven = there + "step 0 0 1 1;step 5 0 3 1;step 1 0 3 1;";
        dueJudge(b, seven + "step 4 0 1 1;", 7);
        dueJudge(b, seven + "fold 0 5 0;fold 0 4 0;", 8);
        dueJudge(b, seven + "fold 0 6 0;", 7);
        dueJudge(b, seven + "fold 1 1 0;", 7);
        dueJudge(b, seven + "fold 0 5 0;step 4 0 3 1;", -1);
        // numbers that no STEP, no FOLD has
        for (String item : new String[] {"step 0 0 4 1;", "step 0 0 -1 1;", "step 0 0 1 0;", "step 0 0 1 3;", "step 99 99 1 1;"}) {
            dueJudge(b, item, 0);
        }
        dueStatus(b, 0, 0, 0);
        FoldedBoard c = dueAtOnce(6, 2, 1);
        for (String item : new String[] {"fold 2 1 0;", "fold -1 1 0;", "fold 0 1 2;", "fold 0 1 -1;", "fold 0 0 0;", "fold 0 6 0;"}) {
            dueJudge(c, item, 0);
        }
        dueJudge(c, "fold 0 1 0;", -1);
        dueJudge(c, "fold 0 5 1;", -1);
        dueJudge(c, "fold 1 1 1;", -1);
        dueStatus(c, 0, 0, 0);
        // as many ITEMS as there may be: the last one is refused
        FoldedBoard d = new FoldedBoard();
        d.board(2, 2);
        d.man(0, 0, 9, 0);
        d.man(0, 1, 9, 7);
        d.put(0, 9);
        dueJudge(d, "step0 0 1 1;step1 1 3 1;step1 0 3 1;step0 1 1 1;step0 0 1 1;step1 1 3 1;step1 0 3 1;step0 1 1 1;", -1);
        dueJudge(d, "step0 0 1 1;step1 1 3 1;step1 0 3 1;step0 1 1 1;step0 0 1 1;step1 1 3 1;step1 0 3 1;step0 1 1 1;step 0 0 0 1;", 8);
    }

    private static void judgeFromNow() {
        sentence("JUDGE: from how it is now");
        FoldedBoard b = line(6);
        b.man(0, 0, 5, 0);
        b.man(0, 1, 5, 5);
        tell(b, "step 0 0 1 1;step 5 0 3 1;");
        due("judge()", b.judge(), -1);
        b.step(0, 0, 1, 1);
        due("1 is on turn", b.judge(), 0);
        b.step(5, 0, 3, 1);
        due("nobody is there", b.judge(), 0);
        b.undo();
        b.undo();
        due("judge()", b.judge(), -1);
        // FOLDS are DUE now, or none is
        FoldedBoard c = dueAtOnce(6, 2, 2);
        tell(c, "fold 0 5 0;fold 0 4 0;");
        due("judge()", c.judge(), -1);
        c.fold(0, 5, 0);
        due("judge()", c.judge(), 0);
    }

    private static void judgeStays() {
        sentence("It stays as it is now.");
        FoldedBoard b = new FoldedBoard();
        b.board(4, 2);
        b.put(0, 1);
        b.put(1, 3);
        b.man(0, 0, 9, 0);
        b.man(0, 1, 1, 9);
        b.step(0, 0, 1, 1);
        b.fold(0, 2, 0);
        // it is folded, unfolded, one is TAKEN, another one steps
        tell(b, "fold 1 1 0;fold 0 1 1;step 1 0 0 1;");
        long before = b.digest();
        due("judge()", b.judge(), 2);
        due("digest()", b.digest(), before);
        duePile(b, 0, 0, 0, 3);
        duePile(b, 1, 1, 7, 8);
        due("count(3)", b.count(3), 2);
        FoldedBoard c = line(4);
        c.man(0, 0, 9, 0);
        c.man(0, 1, 1, 1);
        tell(c, "step 0 0 1 1;");
        before = c.digest();
        due("judge(), one is TAKEN", c.judge(), -1);
        due("digest()", c.digest(), before);
        due("where(1)", c.where(1), 1);
        due("state(5)", c.state(5), -1);
        due("undo()", c.undo(), -3);
        judgeLeavesTheFolds();
    }

    /** By the ITEMS it is unfolded and folded as often, but otherwise: by another axis, line, way, the first or the last one. */
    private static void judgeLeavesTheFolds() {
        String[] others = {"fold 1 5 0;fold 0 4 0;", "fold 0 4 0;fold 0 3 0;", "fold 0 5 1;fold 0 6 0;",
            "fold 0 5 0;fold 1 4 0;", "fold 0 5 0;fold 0 3 0;", "fold 0 5 0;fold 0 4 1;"};
        for (String other : others) {
            FoldedBoard b = new FoldedBoard();
            b.put(0, 1);
            b.put(1, 2);
            b.man(0, 0, 5, 0);
            b.man(0, 1, 5, 30);
            b.step(0, 0, 1, 1);
            b.fold(0, 5, 0);
            b.fold(0, 4, 0);
            tell(b, "step 0 5 1 1;step 1 0 3 1;" + other);
            due("judge() of " + other, b.judge(), -1);
            duePile(b, 3, 0, 3, 5, 4);
            duePile(b, 3, 5, 33, 35, 34);
            duePile(b, 0, 0, 0);
            due("where(0)", b.where(0), 1);
            dueFolds(b, 210, 211, 220, 221, 230, 231, 1210, 1211, 1220, 1221, 1230, 1231, 1240, 1241, 1250, 1251);
        }
        // one FOLD, and another one of which nothing is like it
        FoldedBoard c = new FoldedBoard();
        c.put(0, 1);
        c.man(0, 0, 5, 0);
        c.man(0, 1, 5, 30);
        c.step(0, 0, 1, 1);
        c.fold(0, 5, 0);
        tell(c, "step 0 5 1 1;step 1 0 3 1;fold 1 1 1;");
        due("judge()", c.judge(), -1);
        duePile(c, 4, 0, 4, 5);
        duePile(c, 0, 0, 0);
    }

    private static void undoLast() {
        sentence("UNDO: as ahead of the last STEP or FOLD that was done");
        FoldedBoard b = new FoldedBoard();
        b.board(4, 2);
        b.put(0, 1);
        b.put(1, 3);
        b.man(0, 0, 9, 0);
        b.man(0, 1, 1, 1);
        b.man(0, 1, 1, 9);
        long[] seen = new long[5];
        seen[0] = b.digest();
        due("takes", b.step(0, 0, 1, 1), 1);
        seen[1] = b.digest();
        b.fold(0, 2, 0);
        seen[2] = b.digest();
        b.fold(1, 1, 1);
        seen[3] = b.digest();
        b.fold(0, 1, 1);
        seen[4] = b.digest();
        // refused ones, and those that only ask, are none
        b.fold(0, 1, 1);
        b.step(0, 0, 4, 1);
        b.habit();
        b.wins(2);
        b.judge();
        for (int i = 3; i >= 0; i--) {
            due("undo()", b.undo(), 1);
            due("digest() of " + i, b.digest(), seen[i]);
        }
        due("undo()", b.undo(), -3);
        dueStatus(b, 1, 2, 0);
        // the STEP by which all FOLDS were undone
        FoldedBoard c = dueAtOnce(6, 2, 2);
        c.man(0, 1, 5, 1);
        c.fold(0, 5, 0);
        c.fold(0, 4, 0);
        long folded = c.digest();
        due("step(1, 0, 1, 1)", c.step(1, 0, 1, 1), -1);
        due("state(3)", c.state(3), 0);
        due("undo()", c.undo(), 1);
        due("digest()", c.digest(), folded);
        duePile(c, 3, 0, 3, 5, 4);
        due("where(1)", c.where(1), 1);
    }

    private static void undoEight() {
        sentence("(8 at most may be undone");
        for (int done = 0; done <= 11; done++) {
            FoldedBoard b = new FoldedBoard();
            b.put(0, 9);
            b.man(0, 0, 5, 0);
            b.man(0, 1, 5, 30);
            for (int i = 0; i < done; i++) {
                int moves = i < 9 ? i : i - 1;
                int x = moves / 2 % 2;
                if (i == 9) {
                    due("fold(0, 5, 0)", b.fold(0, 5, 0), 0);
                } else {
                    due("step", b.step(x, moves % 2 == 0 ? 0 : 5, x == 0 ? 1 : 3, 1), -1);
                }
            }
            int may = Math.min(done, 8);
            due("count(3) behind " + done, b.count(3), may);
            for (int i = may; i > 0; i--) {
                due("undo()", b.undo(), 1);
                due("count(3)", b.count(3), i - 1);
            }
            due("undo()", b.undo(), -3);
            due("state(0)", b.state(0), done - may);
            due("state(3)", b.state(3), 0);
        }
    }

    private static void undoNothing() {
        sentence("behind a HOLE, a MAN, put() nothing may)");
        for (int i = 0; i < 5; i++) {
            FoldedBoard b = new FoldedBoard();
            b.man(0, 0, 5, 0);
            b.step(0, 0, 1, 1);
            due("count(3)", b.count(3), 1);
            // refused ones leave it
            b.hole(99);
            b.man(9, 0, 5, 0);
            b.put(0, 0);
            b.put(1, 4);
            b.board(1, 1);
            due("count(3)", b.count(3), 1);
            switch (i) {
                case 0 -> due("hole(0)", b.hole(0), 1);
                case 1 -> due("man", b.man(0, 1, 5, 35), 1);
                case 2 -> due("put(0, 7)", b.put(0, 7), 7);
                case 3 -> due("put(1, 1)", b.put(1, 1), 1);
                default -> due("board(6, 6)", b.board(6, 6), 36);
            }
            due("count(3)", b.count(3), 0);
            due("undo()", b.undo(), -3);
            due("where(0)", b.where(0), i == 4 ? -2 : 1);
        }
        // from then on it may again
        FoldedBoard b = new FoldedBoard();
        b.man(0, 0, 5, 0);
        b.step(0, 0, 1, 1);
        b.man(0, 1, 5, 35);
        b.step(5, 5, 3, 1);
        due("undo()", b.undo(), 1);
        due("undo()", b.undo(), -3);
        due("where(0)", b.where(0), 1);
        due("where(1)", b.where(1), 35);
    }

    private static void images() {
        sentence("IMAGES 0, 1 keep all but them, THE GAME and STATUS");
        FoldedBoard b = foldedInThree();
        long three = b.digest();
        due("image(0)", b.image(0), 1);
        b.undo();
        long two = b.digest();
        due("image(1)", b.image(1), 1);
        b.board(6, 6);
        b.put(0, 5);
        b.put(1, 2);
        b.man(3, 1, 9, 35);
        b.hole(0);
        b.status(9);
        due("from(0)", b.from(0), 1);
        due("digest()", b.digest(), three);
        duePile(b, 0, 1, 6, 9, 3, 0, 1, 2, 8, 7);
        // the other IMAGE is not in it, and it stays in the one it came from
        due("from(1)", b.from(1), 1);
        due("digest()", b.digest(), two);
        due("from(0)", b.from(0), 1);
        due("digest()", b.digest(), three);
        due("image(1)", b.image(1), 1);
        b.board(2, 2);
        due("from(1), the later one", b.from(1), 1);
        due("digest()", b.digest(), three);
        // THE GAME and STATUS go on
        typeText(b, "go");
        due("from(0)", b.from(0), 1);
        due("count(2)", b.count(2), 2);
        dueStatus(b, 1, 0, 0);
        due("put(0, 1)", b.put(0, 1), 1);
        due("put(1, 3)", b.put(1, 3), 3);
        imagesKeepTheFolds();
    }

    /** Behind an IMAGE it is folded otherwise, and its size is another: all comes back. */
    private static void imagesKeepTheFolds() {
        FoldedBoard b = dueAtOnce(4, 2, 3);
        b.fold(0, 2, 0);
        b.fold(1, 1, 1);
        due("small(1)", b.small(1), 3);
        int[] seen = new int[4 * 10];
        for (int i = 0; i < seen.length; i++) {
            seen[i] = b.cell(i / 4, i % 4);
        }
        long before = b.digest();
        b.image(0);
        b.undo();
        b.undo();
        b.fold(1, 1, 0);
        b.fold(0, 3, 1);
        b.fold(0, 5, 0);
        b.image(1);
        long other = b.digest();
        due("from(0)", b.from(0), 1);
        due("digest()", b.digest(), before);
        for (int i = 0; i < seen.length; i++) {
            due("cell(" + i / 4 + ", " + i % 4 + ")", b.cell(i / 4, i % 4), seen[i]);
        }
        dueFolds(b, 210, 211);
        due("fold(0, 1, 0)", b.fold(0, 1, 0), 0);
        duePile(b, 0, 1, 6, 9, 3, 0, 1, 2, 8, 7);
        // SMALL is of the board that came back
        b.board(2, 2);
        due("small(1) of 2, 2", b.small(1), 2);
        due("from(1)", b.from(1), 1);
        due("digest()", b.digest(), other);
        due("small(1) of 4, 2", b.small(1), 3);
        due("small(4) of 4, 2", b.small(4), 1);
        dueFolds(b, 240, 241);
    }

    private static void imagesUndo() {
        sentence("what may be undone is kept with it; it goes on from one.");
        FoldedBoard b = foldedInThree();
        b.image(0);
        for (int i = 0; i < 4; i++) {
            due("undo()", b.undo(), 1);
        }
        long flat = b.digest();
        due("undo()", b.undo(), -3);
        b.image(1);
        due("from(0)", b.from(0), 1);
        due("count(3)", b.count(3), 4);
        for (int i = 0; i < 4; i++) {
            due("undo()", b.undo(), 1);
        }
        due("digest()", b.digest(), flat);
        due("undo()", b.undo(), -3);
        // it goes on, and the IMAGE stays as it was
        due("step(0, 0, 2, 1)", b.step(0, 0, 2, 1), -1);
        due("from(1)", b.from(1), 1);
        due("count(3), none", b.count(3), 0);
        due("digest()", b.digest(), flat);
        due("from(0)", b.from(0), 1);
        due("count(3)", b.count(3), 4);
        b.put(0, 2);
        due("count(3)", b.count(3), 0);
        due("from(0)", b.from(0), 1);
        due("count(3)", b.count(3), 4);
        imagesKeepEight();
    }

    private static void imagesKeepEight() {
        FoldedBoard b = new FoldedBoard();
        b.put(0, 9);
        b.man(0, 0, 5, 0);
        b.man(0, 1, 5, 30);
        for (int i = 0; i < 8; i++) {
            due("step", b.step(i / 2, i % 2 == 0 ? 0 : 5, 1, 1), -1);
        }
        b.image(0);
        // eight others lie where those lay
        b.board(6, 6);
        b.man(0, 0, 5, 35);
        b.man(0, 1, 5, 5);
        for (int i = 0; i < 8; i++) {
            due("step", b.step(5 - i / 2, i % 2 == 0 ? 5 : 0, 3, 1), -1);
        }
        due("from(0)", b.from(0), 1);
        for (int i = 7; i >= 0; i--) {
            due("undo()", b.undo(), 1);
            due("where(0)", b.where(0), (i + 1) / 2);
            due("where(1)", b.where(1), 30 + i / 2);
        }
        due("undo()", b.undo(), -3);
    }

    private static void statusCounts() {
        sentence("STATUS: how many calls were refused as BAD, NO, FULL (each answer told so below is such a one).");
        FoldedBoard b = new FoldedBoard();
        dueStatus(b, 0, 0, 0);
        for (int i = 1; i <= 3; i++) {
            b.board(1, 1);
            b.undo();
            dueStatus(b, i, i, 0);
        }
        for (int i = 0; i < 25; i++) {
            b.type(0, 8);
        }
        dueStatus(b, 3, 3, 0);
        b.type(0, 1);
        dueStatus(b, 3, 3, 1);
        // answers that are like BAD, NO, NONE but no refusals
        FoldedBoard c = dueAtOnce(6, 2, 1);
        c.fold(0, 1, 0);
        due("cell(2, 0)", c.cell(2, 0), -1);
        due("cell(3, 0)", c.cell(3, 0), -2);
        due("cell(4, 0)", c.cell(4, 0), -3);
        due("cell(5, 0)", c.cell(5, 0), -4);
        due("pile(9, 9, 0)", c.pile(9, 9, 0), -5);
        due("folds(99)", c.folds(99), -5);
        due("ruler(9, 9)", c.ruler(9, 9), -1);
        due("best(3)", c.best(3), -1);
        due("fault()", c.fault(), -1);
        due("judge()", c.judge(), -1);
        due("small(1)", c.small(1), -1);
        dueStatus(c, 0, 0, 0);
    }
}
