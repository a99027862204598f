/** Promises 1 to 31: the least and the greatest that each call takes and answers; what is refused is in RefusalsTest. */
public final class CallsBoundariesTest extends Checks {
    public static void main(String[] args) {
        newObject();
        board();
        hole();
        man();
        put();
        cell();
        pile();
        pileNotSoMany();
        strength();
        ruler();
        where();
        step();
        fold();
        state();
        undo();
        foldsMany();
        foldsNotSoMany();
        leaves();
        habit();
        safe();
        small();
        reach();
        wins();
        best();
        type();
        typeLowest();
        clear();
        fault();
        judge();
        image();
        from();
        status();
        count();
        digest();
        digestWraps();
        end();
    }

    private static void newObject() {
        sentence("`FoldedBoard()`: As told; no MEN.");
        FoldedBoard b = new FoldedBoard();
        FoldedBoard other = new FoldedBoard();
        other.board(2, 2);
        other.man(0, 0, 5, 0);
        other.type(97, 1);
        other.image(0);
        other.status(9);
        // nothing of another object is in it
        due("count(0)", b.count(0), 36);
        due("count(1)", b.count(1), 0);
        due("count(2)", b.count(2), 0);
        due("count(3)", b.count(3), 0);
        int[] states = {0, 0, 0, 0, 0, -1};
        for (int i = 0; i < 6; i++) {
            due("state(" + i + ")", b.state(i), states[i]);
        }
        due("safe()", b.safe(), 0);
        due("fault()", b.fault(), -1);
        due("judge()", b.judge(), -1);
        dueStatus(b, 0, 0, 0);
        for (int m = 0; m < 8; m++) {
            due("where(" + m + ")", b.where(m), -2);
        }
        due("from(0)", b.from(0), -3);
        due("from(1)", b.from(1), -3);
        due("undo()", b.undo(), -3);
        due("put(0, 1)", b.put(0, 1), 7);
        due("put(1, 3)", b.put(1, 3), 1);
    }

    private static void board() {
        sentence("THE BOARD anew, flat: no HOLES, no MEN, no MOVES, nothing to undo: how many CELLS.");
        for (int[] wh : new int[][] {{2, 2}, {2, 6}, {6, 2}, {6, 6}}) {
            FoldedBoard b = new FoldedBoard();
            b.put(0, 1);
            b.put(1, 3);
            b.hole(7);
            b.man(0, 0, 5, 0);
            b.man(0, 1, 4, 1);
            b.step(0, 0, 1, 1);
            b.fold(0, 3, 0);
            typeText(b, "go");
            due("state(5)", b.state(5), 0);
            due("state(2)", b.state(2), 2);
            due("board(" + wh[0] + ", " + wh[1] + ")", b.board(wh[0], wh[1]), wh[0] * wh[1]);
            int[] states = {0, 0, 0, 0, 0, -1};
            for (int i = 0; i < 6; i++) {
                due("state(" + i + ")", b.state(i), states[i]);
            }
            due("count(0)", b.count(0), wh[0] * wh[1]);
            due("count(1)", b.count(1), 0);
            due("where(0)", b.where(0), -2);
            due("count(3)", b.count(3), 0);
            dueCell(b, 7, 1, 1, 0, 0);
            dueCell(b, 6 * wh[1] - 7 + wh[0], wh[0] - 1, wh[1] - 1, 0, 0);
            // what it does not name stays: THE GAME, EVERY, TIMES
            due("count(2)", b.count(2), 2);
            due("put(0, 7)", b.put(0, 7), 1);
            due("put(1, 1)", b.put(1, 1), 3);
        }
        // the IMAGES stay, too
        FoldedBoard c = new FoldedBoard();
        c.image(1);
        c.board(2, 2);
        due("from(1)", c.from(1), 1);
        due("count(0)", c.count(0), 36);
    }

    private static void hole() {
        sentence("`int hole(int cell)`: A HOLE: 1.");
        FoldedBoard b = new FoldedBoard();
        due("the first", b.hole(0), 1);
        due("the last", b.hole(35), 1);
        due("count(0)", b.count(0), 34);
        due("cell(0, 0)", b.cell(0, 0), -1000);
        due("cell(35, 0)", b.cell(35, 0), -1000);
        due("pile(5, 5, -1)", b.pile(5, 5, -1), 0);
        b.board(2, 3);
        due("the last of 2, 3", b.hole(13), 1);
        due("behind it", b.hole(14), -2);
        due("below it", b.hole(18), -2);
        // once it was folded and is flat again, it may be again
        FoldedBoard c = dueAtOnce(2, 2, 1);
        c.man(0, 1, 5, 7);
        c.fold(1, 1, 0);
        due("folded", c.hole(0), -3);
        due("step(1, 0, 3, 1)", c.step(1, 0, 3, 1), -20);
        c.undo();
        due("DUE", c.hole(0), -3);
        FoldedBoard d = dueAtOnce(3, 2, 1);
        d.man(0, 1, 5, 1);
        d.fold(1, 1, 0);
        due("step(1, 0, 1, 1)", d.step(1, 0, 1, 1), -1);
        due("flat again", d.hole(0), 1);
    }

    private static void man() {
        sentence("A MAN: his number.");
        FoldedBoard b = new FoldedBoard();
        due("the least", b.man(0, 0, 1, 0), 0);
        due("the greatest", b.man(4, 1, 9, 35), 1);
        // while DUE and while it is folded, too
        FoldedBoard c = dueAtOnce(2, 2, 1);
        due("while DUE", c.man(0, 1, 1, 0), 1);
        due("state(2)", c.state(2), 1);
        c.fold(1, 1, 0);
        due("folded", c.man(0, 1, 1, 7), 2);
        due("ruler(1, 0)", c.ruler(1, 0), 2);
        due("state(3)", c.state(3), 1);
        // on the CELL of one who is TAKEN, left again
        FoldedBoard d = new FoldedBoard();
        d.man(0, 0, 9, 0);
        d.man(0, 1, 1, 1);
        d.man(0, 1, 1, 35);
        d.step(0, 0, 1, 1);
        d.step(5, 5, 3, 1);
        d.step(1, 0, 1, 1);
        due("man on 1", d.man(0, 1, 1, 1), 3);
        due("where(1)", d.where(1), -1);
    }

    private static void put() {
        sentence("`int put(int what, int v)`: EVERY (0), TIMES (1): what it was.");
        FoldedBoard b = new FoldedBoard();
        due("the least", b.put(0, 1), 7);
        due("the greatest", b.put(0, 9), 1);
        due("again", b.put(0, 9), 9);
        due("the least", b.put(1, 1), 1);
        due("the greatest", b.put(1, 3), 1);
        due("again", b.put(1, 3), 3);
        // what is DUE stays as many
        FoldedBoard c = dueAtOnce(6, 6, 2);
        due("put(1, 3)", c.put(1, 3), 2);
        due("put(0, 9)", c.put(0, 9), 1);
        due("state(2)", c.state(2), 2);
        due("put(1, 1)", c.put(1, 1), 3);
        due("fold(0, 1, 0)", c.fold(0, 1, 0), 1);
    }

    private static void cell() {
        sentence("Of a CELL: POSITION x (0), y (1), LAYER (2), whether DOWN (3: 1, 0).");
        FoldedBoard b = new FoldedBoard();
        dueCell(b, 0, 0, 0, 0, 0);
        dueCell(b, 35, 5, 5, 0, 0);
        FoldedBoard c = dueAtOnce(6, 6, 2);
        c.fold(0, 1, 0);
        dueCell(c, 35, -4, 5, 1, 1);
        dueCell(c, 0, 0, 0, 0, 0);
        c.fold(1, 5, 1);
        dueCell(c, 35, -4, 5, 1, 1);
        dueCell(c, 5, -4, 9, 2, 0);
        dueCell(c, 0, 0, 9, 3, 1);
    }

    private static void pile() {
        sentence("CELLS that lie at a POSITION: how many (i = NONE), the i-th from below.");
        FoldedBoard b = new FoldedBoard();
        duePile(b, 0, 0, 0);
        duePile(b, 5, 5, 35);
        duePile(b, -1, 0);
        duePile(b, 6, 0);
        duePile(b, LOW, HIGH);
        duePile(b, HIGH, LOW);
        b.hole(0);
        duePile(b, 0, 0);
        FoldedBoard c = foldedInThree();
        duePile(c, 0, 1, 6, 9, 3, 0, 1, 2, 8, 7);
        // POSITIONS below 0
        FoldedBoard d = dueAtOnce(6, 2, 1);
        d.fold(0, 1, 0);
        duePile(d, -4, 1, 11);
        duePile(d, -5, 1);
        duePile(d, 0, 1, 6, 7);
    }

    private static void pileNotSoMany() {
        sentence("the i-th from below. -5: not so many.");
        FoldedBoard b = new FoldedBoard();
        due("pile(0, 0, 0)", b.pile(0, 0, 0), 0);
        due("pile(0, 0, 1)", b.pile(0, 0, 1), -5);
        due("pile(0, 0, HIGH)", b.pile(0, 0, HIGH), -5);
        due("pile(9, 9, 0)", b.pile(9, 9, 0), -5);
        due("pile(9, 9, -1)", b.pile(9, 9, -1), 0);
        dueStatus(b, 0, 0, 0);
        FoldedBoard c = foldedInThree();
        due("pile(0, 1, 7)", c.pile(0, 1, 7), 7);
        due("pile(0, 1, 8)", c.pile(0, 1, 8), -5);
    }

    private static void strength() {
        sentence("STRENGTH of a MAN.");
        FoldedBoard b = new FoldedBoard();
        b.man(0, 0, 1, 0);
        due("the least", b.strength(0), 1);
        for (int i = 1; i < 7; i++) {
            b.man(0, 0, 1, i);
        }
        b.man(3, 1, 9, 35);
        due("the greatest, of the last", b.strength(7), 22);
        due("behind it", b.strength(8), -2);
    }

    private static void ruler() {
        sentence("RULER of a POSITION. NONE: nobody is there.");
        FoldedBoard b = new FoldedBoard();
        for (int i = 0; i < 8; i++) {
            b.man(0, 0, 1, 5 * i);
        }
        due("the first", b.ruler(0, 0), 0);
        due("the last", b.ruler(5, 5), 7);
        due("a CELL without", b.ruler(1, 0), -1);
        due("no CELL", b.ruler(6, 0), -1);
        due("no CELL", b.ruler(0, -1), -1);
        for (int v : new int[] {LOW, -1, 6, HIGH}) {
            due("ruler(" + v + ", " + v + ")", b.ruler(v, v), -1);
        }
        // 5 is at x 5, y 0: no wrap-around from a row into the next
        due("ruler(-1, 1)", b.ruler(-1, 1), -1);
        due("ruler(11, -1)", b.ruler(11, -1), -1);
        dueStatus(b, 0, 0, 0);
    }

    private static void where() {
        sentence("The CELL of a MAN. NONE: TAKEN.");
        FoldedBoard b = new FoldedBoard();
        b.man(0, 0, 9, 0);
        for (int i = 1; i < 7; i++) {
            b.man(0, 1, 1, i);
        }
        b.man(0, 1, 1, 35);
        due("the first", b.where(0), 0);
        due("the last", b.where(7), 35);
        b.step(0, 0, 1, 1);
        due("TAKEN", b.where(1), -1);
        due("who took", b.where(0), 1);
        b.undo();
        due("not TAKEN", b.where(1), 1);
        dueStatus(b, 0, 0, 0);
    }

    private static void step() {
        sentence("A STEP: the MAN that is TAKEN, or NONE.");
        // the first and the last may be TAKEN
        FoldedBoard b = new FoldedBoard();
        b.man(0, 1, 1, 0);
        b.man(0, 0, 9, 1);
        for (int i = 2; i < 7; i++) {
            b.man(0, 0, 1, 29 + i);
        }
        b.man(0, 1, 1, 7);
        due("0 is TAKEN", b.step(1, 0, 3, 1), 0);
        due("NONE is", b.step(1, 1, 3, 1), -1);
        due("7 is", b.step(0, 0, 2, 1), 7);
        due("state(5)", b.state(5), 0);
        dueStatus(b, 0, 0, 0);
    }

    private static void fold() {
        sentence("A FOLD that is DUE: how many are DUE still.");
        for (int times = 1; times <= 3; times++) {
            FoldedBoard b = dueAtOnce(6, 6, times);
            for (int left = times; left > 0; left--) {
                due("fold(1, " + (2 + left) + ", 0)", b.fold(1, 2 + left, 0), left - 1);
            }
            due("none is DUE", b.fold(1, 1, 0), -3);
        }
        // the least and the greatest line, of both axes and ways
        int[][] lines = {{0, 1}, {0, 5}, {1, 1}, {1, 5}};
        for (int[] l : lines) {
            for (int way = 0; way < 2; way++) {
                FoldedBoard b = dueAtOnce(6, 6, 1);
                due("fold(" + l[0] + ", " + l[1] + ", " + way + ")", b.fold(l[0], l[1], way), 0);
            }
        }
        // no more than one may be: 0 at once
        FoldedBoard c = dueAtOnce(2, 2, 3);
        c.fold(1, 1, 1);
        due("fold(0, 1, 1)", c.fold(0, 1, 1), 0);
    }

    private static void state() {
        sentence("MOVES (0), who is on turn (1), FOLDS DUE (2), FOLDS there are (3), who is BEHIND (4), who has WON (5; NONE: nobody).");
        FoldedBoard b = new FoldedBoard();
        b.board(6, 2);
        b.put(0, 1);
        b.put(1, 3);
        b.man(0, 0, 1, 0);
        b.man(0, 1, 9, 1);
        b.man(0, 0, 1, 11);
        int[][] want = {{0, 0, 0, 0, 0, -1}, {1, 1, 3, 0, 0, -1}, {1, 1, 2, 1, 0, -1}, {1, 1, 0, 3, 0, -1}, {2, 0, 0, 0, 0, -1}};
        dueStates(b, want[0]);
        b.step(5, 1, 0, 1);
        dueStates(b, want[1]);
        b.fold(0, 5, 0);
        dueStates(b, want[2]);
        b.fold(0, 4, 0);
        b.fold(0, 3, 0);
        dueStates(b, want[3]);
        due("step(1, 0, 3, 1)", b.step(1, 0, 3, 1), 0);
        dueStates(b, want[4]);
    }

    private static void dueStates(FoldedBoard b, int... want) {
        for (int i = 0; i < 6; i++) {
            due("state(" + i + ")", b.state(i), want[i]);
        }
    }

    private static void undo() {
        sentence("`int undo()`: UNDO: 1.");
        FoldedBoard b = foldedInThree();
        for (int i = 3; i >= 0; i--) {
            due("undo()", b.undo(), 1);
            due("count(3)", b.count(3), i);
            due("state(2)", b.state(2), i == 0 ? 0 : 4 - i);
            due("state(3)", b.state(3), Math.max(0, i - 1));
        }
        due("undo()", b.undo(), -3);
    }

    private static void foldsMany() {
        sentence("ALL FOLDS: how many (i = NONE), the i-th: 1000 times the axis, and 10 times (line and 20), and the way.");
        FoldedBoard b = new FoldedBoard();
        due("folds(-1)", b.folds(-1), 20);
        due("the first", b.folds(0), 210);
        due("the last by x", b.folds(9), 251);
        due("the first by y", b.folds(10), 1210);
        due("the last", b.folds(19), 1251);
        // the least line there may be, and the greatest
        FoldedBoard least = dueAtOnce(6, 6, 3);
        least.fold(1, 1, 0);
        least.fold(1, -3, 0);
        least.fold(1, -6, 0);
        due("least: folds(-1)", least.folds(-1), 14);
        due("least: folds(10)", least.folds(10), 1120);
        FoldedBoard greatest = dueAtOnce(6, 6, 3);
        greatest.fold(1, 5, 1);
        greatest.fold(1, 9, 1);
        greatest.fold(1, 12, 1);
        due("greatest: folds(-1)", greatest.folds(-1), 14);
        due("greatest: folds(13)", greatest.folds(13), 1341);
    }

    private static void foldsNotSoMany() {
        sentence("and the way. -5: not so many.");
        FoldedBoard b = new FoldedBoard();
        due("folds(19)", b.folds(19), 1251);
        due("folds(20)", b.folds(20), -5);
        due("folds(HIGH)", b.folds(HIGH), -5);
        FoldedBoard c = foldedInThree();
        due("folds(-1)", c.folds(-1), 0);
        due("folds(0)", c.folds(0), -5);
        dueStatus(b, 0, 0, 0);
        dueStatus(c, 0, 0, 0);
    }

    private static void leaves() {
        sentence("LEAVES of the i-th of ALL FOLDS.");
        FoldedBoard b = new FoldedBoard();
        for (int i = 0; i < 8; i++) {
            b.man(0, 0, 5, i < 4 ? i : 26 + i);
        }
        due("the first: 0 and 1, 30 and 31 together", b.leaves(0, 0), 6);
        due("of the other one", b.leaves(0, 1), 0);
        due("the last: none together", b.leaves(19, 0), 8);
        due("by y in the middle: all of them", b.leaves(14, 0), 4);
        due("behind it", b.leaves(20, 0), -2);
    }

    private static void habit() {
        sentence("HABIT: which of ALL FOLDS (0 on). NONE: there is none.");
        FoldedBoard b = new FoldedBoard();
        due("the first", b.habit(), 0);
        // each brings one of the two under the strong one
        b.board(2, 2);
        b.man(0, 0, 9, 1);
        b.man(1, 1, 1, 0);
        b.man(1, 1, 1, 7);
        due("state(4)", b.state(4), 1);
        due("none saves both", b.leaves(0, 1), 1);
        due("habit()", b.habit(), 0);
        // the last one: by y at 1, way 1, the MOLE of who is BEHIND comes over
        FoldedBoard c = new FoldedBoard();
        c.board(2, 2);
        holes(c, 1, 7);
        c.man(2, 0, 4, 0);
        c.man(0, 1, 5, 6);
        due("folds(-1)", c.folds(-1), 2);
        due("the last", c.habit(), 1);
        // no CELL, one CELL, all together
        c.board(2, 2);
        holes(c, 0, 1, 6);
        due("one CELL", c.habit(), -1);
        holes(c, 7);
        due("no CELL", c.habit(), -1);
        FoldedBoard d = foldedInThree();
        due("all together", d.habit(), -1);
        dueStatus(d, 0, 0, 0);
    }

    private static void safe() {
        sentence("`int safe()`: SAFE: bits of MEN.");
        FoldedBoard b = new FoldedBoard();
        due("no MEN", b.safe(), 0);
        for (int i = 0; i < 8; i++) {
            b.man(0, 1, 1, 35 - i);
            due("of " + (i + 1), b.safe(), (2 << i) - 1);
        }
        // the first alone, the last alone
        FoldedBoard c = new FoldedBoard();
        c.board(2, 2);
        c.man(0, 0, 9, 0);
        c.man(0, 1, 1, 1);
        due("safe()", c.safe(), 1);
        FoldedBoard d = new FoldedBoard();
        for (int i = 0; i < 7; i++) {
            d.man(0, 0, 1, i < 6 ? i : 6);
        }
        d.man(0, 1, 9, 7);
        // 1 and 6 lie beside 7
        due("safe()", d.safe(), 255 - 2 - 64);
    }

    private static void small() {
        sentence("`int small(int k)`: SMALL. NONE.");
        FoldedBoard b = new FoldedBoard();
        due("small(36)", b.small(36), 0);
        due("small(35)", b.small(35), 1);
        due("small(6)", b.small(6), 3);
        due("small(5)", b.small(5), -1);
        due("small(1)", b.small(1), -1);
        b.hole(0);
        due("small(36) of 35", b.small(36), 0);
        due("small(35) of 35", b.small(35), 0);
        due("small(34) of 35", b.small(34), 1);
        dueStatus(b, 0, 0, 0);
    }

    private static void reach() {
        sentence("`int reach(int x, int y, int n)`: REACH.");
        FoldedBoard b = new FoldedBoard();
        b.man(0, 1, 1, 0);
        int[] want = {1, 3, 6, 10, 15, 21, 26, 30, 33, 35};
        for (int n = 0; n < 10; n++) {
            due("reach(0, 0, " + n + ")", b.reach(0, 0, n), want[n]);
        }
        b.man(0, 0, 1, 35);
        due("all but where the other is, and one too far", b.reach(0, 0, 9), 35);
        b.man(0, 0, 1, 21);
        int[] middle = {1, 5, 13, 23, 30, 34, 34, 34, 34, 34};
        for (int n = 0; n < 10; n++) {
            due("reach(3, 3, " + n + ")", b.reach(3, 3, n), middle[n]);
        }
        // at a POSITION below 0
        FoldedBoard c = dueAtOnce(6, 2, 1);
        c.man(0, 1, 1, 5);
        c.fold(0, 1, 0);
        due("reach(-4, 0, 0)", c.reach(-4, 0, 0), 1);
        due("reach(-4, 0, 9)", c.reach(-4, 0, 9), 9);
    }

    private static void wins() {
        sentence("`int wins(int n)`: WINS.");
        FoldedBoard b = lineOfFour();
        int[] want = {0, 0, 0, 1};
        long before = b.digest();
        for (int n = 0; n < 4; n++) {
            due("wins(" + n + ")", b.wins(n), want[n]);
        }
        due("digest()", b.digest(), before);
        due("count(3)", b.count(3), 0);
        FoldedBoard c = new FoldedBoard();
        c.man(0, 1, 9, 1);
        c.man(0, 0, 1, 0);
        due("who is on turn is the weak one", c.wins(3), 0);
    }

    private static void best() {
        sentence("BEST: 10000 times (y and 20), 100 times (x and 20), 10 times the WAY, and how far. NONE.");
        FoldedBoard b = new FoldedBoard();
        b.man(4, 0, 9, 0);
        b.man(0, 1, 1, 1);
        due("the least flat", b.best(1), 202011);
        b.board(6, 6);
        b.man(4, 0, 9, 35);
        b.man(0, 1, 1, 33);
        due("the greatest flat", b.best(1), 252532);
        due("NONE", b.best(0), -1);
        // far below 0, and far above 5
        FoldedBoard low = takingAt(new int[][] {{1, 1, 0}, {1, -3, 0}, {1, -6, 0}}, 24);
        due("where they lie", low.cell(24, 1), -9);
        due("beside", low.cell(25, 1), -9);
        due("at y -9", low.best(1), 112011);
        FoldedBoard high = takingAt(new int[][] {{1, 5, 1}, {1, 9, 1}, {1, 12, 1}}, 0);
        due("where they lie", high.cell(0, 1), 14);
        due("at y 14", high.best(1), 342011);
        dueStatus(low, 0, 0, 0);
        dueStatus(high, 0, 0, 0);
    }

    /** OWNER 1 on a CELL at x 0; a weaker one comes beside it from below, then there are three FOLDS. */
    private static FoldedBoard takingAt(int[][] folds, int cell) {
        FoldedBoard b = new FoldedBoard();
        b.put(0, 1);
        b.put(1, 3);
        b.man(0, 1, 9, cell);
        b.man(0, 0, 1, cell + 7);
        due("step", b.step(1, cell / 6 + 1, 0, 1), -1);
        for (int[] f : folds) {
            b.fold(f[0], f[1], f[2]);
        }
        due("state(3)", b.state(3), 3);
        return b;
    }

    private static void type() {
        sentence("The lowest n (1 .. 8) bytes of v, the highest of them first, come to THE GAME: how many it has.");
        long v = 0x8182838485868788L;
        for (int n = 1; n <= 8; n++) {
            FoldedBoard b = new FoldedBoard();
            b.board(2, 2);
            due("type(.., " + n + ")", b.type(v, n), n);
            int[] head = {4, 0, n, 0, 2, 2, 0, 1, 6, 7, 7, 1, 0, 0};
            int[] all = new int[head.length + n];
            System.arraycopy(head, 0, all, 0, head.length);
            for (int i = 0; i < n; i++) {
                all[head.length + i] = 0x89 - n + i;
            }
            due("digest() of " + n, b.digest(), hash(all));
        }
        FoldedBoard c = new FoldedBoard();
        for (int n = 1; n <= 8; n++) {
            due("type(.., " + n + ")", c.type(v, n), n * (n + 1) / 2);
        }
    }

    private static void typeLowest() {
        sentence("The lowest n (1 .. 8) bytes of v");
        for (long v : new long[] {0, -1, Long.MIN_VALUE, Long.MAX_VALUE, 255, 256, -256}) {
            FoldedBoard b = new FoldedBoard();
            b.board(2, 2);
            due("type(" + v + ", 1)", b.type(v, 1), 1);
            due("digest()", b.digest(), hash(4, 0, 1, 0, 2, 2, 0, 1, 6, 7, 7, 1, 0, 0, (int) (v & 255)));
            b.clear();
            due("type(" + v + ", 8)", b.type(v, 8), 8);
            int top = (int) (v >> 56) & 255;
            int mid = (int) (v >> 24) & 255;
            int next = (int) (v >> 8) & 255;
            due("digest()", b.digest(), hash(4, 0, 8, 0, 2, 2, 0, 1, 6, 7, 7, 1, 0, 0,
                top, mid, mid, mid, mid, mid, next, (int) (v & 255)));
        }
    }

    private static void clear() {
        sentence("THE GAME is empty: how many it had.");
        FoldedBoard b = new FoldedBoard();
        long empty = b.digest();
        due("none", b.clear(), 0);
        tell(b, " ".repeat(200));
        due("200", b.clear(), 200);
        due("none", b.clear(), 0);
        due("digest()", b.digest(), empty);
        tell(b, "x");
        due("1", b.clear(), 1);
        due("type(.., 8)", b.type(0, 8), 8);
        dueStatus(b, 0, 0, 0);
    }

    private static void fault() {
        sentence("`int fault()`: FAULT. NONE.");
        FoldedBoard b = new FoldedBoard();
        due("empty", b.fault(), -1);
        tell(b, ";");
        due("the first byte", b.fault(), 0);
        tell(b, " ".repeat(199) + ";");
        due("the last byte", b.fault(), 199);
        tell(b, " ".repeat(196) + "step");
        due("behind the last byte", b.fault(), 200);
        tell(b, " ".repeat(200));
        due("none", b.fault(), -1);
        dueStatus(b, 0, 0, 0);
    }

    private static void judge() {
        sentence("`int judge()`: JUDGE. NONE.");
        FoldedBoard b = new FoldedBoard();
        b.put(0, 9);
        due("empty", b.judge(), -1);
        // the most ITEMS there may be: 20 of 10 bytes
        tell(b, "fold0 1 0;".repeat(20));
        due("none is DUE", b.judge(), 0);
        b.man(0, 0, 1, 0);
        b.man(0, 1, 1, 30);
        String four = "step0 0 1 1;step0 5 1 1;step1 0 3 1;step1 5 3 1;";
        tell(b, four + four);
        due("8 ITEMS", b.judge(), -1);
        tell(b, four + four + "step0 0 1 1;fold0 5 0;step0 5 1 1;step1 0 3 1;step1 5 3 1;");
        due("13 ITEMS", b.judge(), -1);
        tell(b, four + four + "step0 0 1 1;fold0 5 0;step0 5 1 1;step1 0 3 1;step1 5 3 1;fold0 4 0;");
        due("the last of 14", b.judge(), 13);
        due("state(0)", b.state(0), 0);
        dueStatus(b, 0, 0, 0);
    }

    private static void image() {
        sentence("`int image(int i)`: An IMAGE is kept: 1.");
        FoldedBoard b = new FoldedBoard();
        long first = b.digest();
        due("image(0)", b.image(0), 1);
        due("image(1)", b.image(1), 1);
        due("again", b.image(1), 1);
        due("digest()", b.digest(), first);
        // each on its own
        b.board(2, 2);
        due("image(1)", b.image(1), 1);
        due("from(0)", b.from(0), 1);
        due("count(0)", b.count(0), 36);
        due("from(1)", b.from(1), 1);
        due("count(0)", b.count(0), 4);
        dueStatus(b, 0, 0, 0);
    }

    private static void from() {
        sentence("`int from(int i)`: It goes on from an IMAGE: 1.");
        FoldedBoard b = dueAtOnce(6, 6, 3);
        b.image(0);
        b.fold(0, 3, 0);
        b.image(1);
        due("from(0)", b.from(0), 1);
        due("DUE still", b.state(2), 3);
        due("fold(1, 3, 0)", b.fold(1, 3, 0), 2);
        due("from(1)", b.from(1), 1);
        due("DUE still", b.state(2), 2);
        dueCell(b, 5, 0, 0, 1, 1);
        due("small(36)", b.small(36), 0);
        due("undo()", b.undo(), 1);
        due("undo()", b.undo(), 1);
        due("where(0)", b.where(0), 0);
        due("undo()", b.undo(), -3);
        due("from(1) once more", b.from(1), 1);
        due("state(3)", b.state(3), 1);
    }

    private static void status() {
        sentence("STATUS: BAD (0), NO (1), FULL (2).");
        FoldedBoard b = new FoldedBoard();
        for (int i = 0; i < 8; i++) {
            b.man(0, 0, 1, i);
        }
        b.man(0, 0, 1, 8);
        b.man(0, 0, 1, 8);
        b.man(0, 0, 1, 8);
        b.undo();
        b.undo();
        b.board(1, 1);
        dueStatus(b, 1, 2, 3);
        // it goes on over THE BOARD anew
        b.board(2, 2);
        dueStatus(b, 1, 2, 3);
        due("another what", b.status(3), -1);
        dueStatus(b, 2, 2, 3);
    }

    private static void count() {
        sentence("How many: 0 CELLS, 1 MEN (TAKEN ones, too), 2 bytes of THE GAME, 3 that may be undone.");
        FoldedBoard b = new FoldedBoard();
        int[] first = {36, 0, 0, 0};
        for (int i = 0; i < 4; i++) {
            due("count(" + i + ")", b.count(i), first[i]);
        }
        b.put(0, 9);
        for (int i = 0; i < 8; i++) {
            b.man(0, i % 2, 1, i == 0 ? 0 : i == 1 ? 24 : 28 + i);
        }
        tell(b, " ".repeat(200));
        for (int i = 0; i < 9; i++) {
            b.step(i / 2 % 2, i % 2 == 0 ? 0 : 4, i / 2 % 2 == 0 ? 1 : 3, 1);
        }
        int[] most = {36, 8, 200, 8};
        for (int i = 0; i < 4; i++) {
            due("count(" + i + ")", b.count(i), most[i]);
        }
        // the TAKEN, and no HOLES
        FoldedBoard c = new FoldedBoard();
        c.hole(35);
        c.man(0, 0, 9, 0);
        c.man(0, 1, 1, 1);
        c.step(0, 0, 1, 1);
        due("count(0)", c.count(0), 35);
        due("count(1)", c.count(1), 2);
        due("count(3)", c.count(3), 1);
        c.board(2, 2);
        holes(c, 0, 1, 6, 7);
        due("no CELL", c.count(0), 0);
    }

    private static void digest() {
        sentence("of MEN KIND, OWNER, HEIGHT, CELL (NONE: TAKEN); EVERY, TIMES, MOVES, DUE; of FOLDS axis, line, way; bytes of THE GAME.");
        // no CELL at all
        FoldedBoard b = new FoldedBoard();
        b.board(2, 2);
        holes(b, 0, 1, 6, 7);
        due("digest()", b.digest(), hash(0, 0, 0, 0, 2, 2, 7, 1, 0, 0));
        // one is TAKEN, all of three FOLDS, one by a line below 0, bytes 0 and 255
        FoldedBoard c = new FoldedBoard();
        c.board(2, 3);
        holes(c, 13);
        c.put(0, 1);
        c.put(1, 3);
        c.man(4, 0, 9, 0);
        c.man(3, 1, 1, 1);
        c.step(0, 0, 1, 1);
        c.fold(1, 1, 0);
        due("fold(1, 0, 1)", c.fold(1, 0, 1), 1);
        c.type(255, 2);
        due("digest()", c.digest(), hash(5, 2, 2, 3, 2, 3, 0, 1, 6, 7, 12, 4, 0, 9, 1, 3, 1, 1, -1,
            1, 3, 1, 1, 1, 1, 0, 1, 0, 1, 0, 255));
        due("fold(0, 1, 1)", c.fold(0, 1, 1), 0);
        due("digest()", c.digest(), hash(5, 2, 2, 4, 2, 3, 0, 1, 6, 7, 12, 4, 0, 9, 1, 3, 1, 1, -1,
            1, 3, 1, 0, 1, 1, 0, 1, 0, 1, 0, 1, 1, 0, 255));
        // STATUS and the IMAGES are not in it
        long before = c.digest();
        c.status(9);
        c.image(0);
        due("digest()", c.digest(), before);
    }

    private static void digestWraps() {
        sentence("h = 653; then h = 31 h + v for each v: count(0) to count(3); W, H; of CELLS (by y, x; no HOLES) their number;");
        FoldedBoard b = new FoldedBoard();
        // worked out with numbers without an end, by 2 to the 64th left over
        due("a new object", b.digest(), -1873298115360654251L);
        java.math.BigInteger h = java.math.BigInteger.valueOf(653);
        int[] values = {4, 0, 200, 0, 2, 2, 0, 1, 6, 7, 7, 1, 0, 0};
        for (int v : values) {
            h = h.multiply(java.math.BigInteger.valueOf(31)).add(java.math.BigInteger.valueOf(v));
        }
        for (int i = 0; i < 200; i++) {
            h = h.multiply(java.math.BigInteger.valueOf(31)).add(java.math.BigInteger.valueOf(255));
        }
        b.board(2, 2);
        tell(b, ((char) 255 + "").repeat(200));
        due("200 bytes", b.digest(), h.longValue());
    }
}
