/** The document's part 1 (THE BOARD, FOLDS, MEN, STEPS): for each sentence that names a boundary case a test of its own. */
public final class BoardBoundariesTest extends Checks {
    private static final int[] AROUND_X = {0, 1, 0, -1};
    private static final int[] AROUND_Y = {-1, 0, 1, 0};

    public static void main(String[] args) {
        calls();
        sizes();
        firstSize();
        numbers();
        noHolesAtFirst();
        threeFoldsAsTheyCame();
        flatAtFirst();
        lineItself();
        mirrored();
        greatestLayer();
        turnedAgain();
        someMoveSomeDoNot();
        holesNeverCount();
        eightMen();
        ownersAndHeights();
        noTwoOnOne();
        strengthOfMan();
        strengthOfTower();
        strengthOfMole();
        strengthOfGiant();
        strengthOfRunner();
        strongestRules();
        ofLikeOnesTheUpper();
        noMovesAtFirst();
        turnWrapsAround();
        ofTheOneOnTurn();
        ways();
        howFar();
        overWhat();
        toACell();
        nobodyThere();
        weaker();
        strengthWhereHeComesFrom();
        takenIsInNoMore();
        elseItMayNotBe();
        everyAndTimes();
        movesByEvery();
        noMoreThanThree();
        allUndone();
        noStepWhileDue();
        oneFewer();
        noneMayBe();
        behind();
        behindAlike();
        won();
        end();
    }

    private static void calls() {
        sentence("An object is used for at most 512 calls after it has been made");
        FoldedBoard b = new FoldedBoard();
        for (int i = 0; i < 511; i++) {
            b.status(3);
        }
        due("status(0), the 512th call", b.status(0), 511);
        FoldedBoard c = backAndForth();
        c.put(0, 9);
        // 3 calls, then 508: the tenth of each 19 is a FOLD, the others are MOVES
        int moves = 0;
        for (int i = 0; i < 508; i++) {
            if (i % 19 == 9) {
                due("fold(0, 5, 0)", c.fold(0, 5, 0), 0);
            } else {
                moveBackAndForth(c, moves);
                moves++;
            }
        }
        due("state(0), the 512th call", c.state(0), 481);
    }

    /** One of each OWNER, on 0 and 30: no FOLD by x at 5, way 0, moves them or what is beside them. */
    private static FoldedBoard backAndForth() {
        FoldedBoard b = new FoldedBoard();
        b.man(0, 0, 5, 0);
        b.man(0, 1, 5, 30);
        return b;
    }

    /** The MOVE behind so many: there, there, back, back. */
    private static void moveBackAndForth(FoldedBoard b, int moves) {
        int x = moves / 2 % 2;
        due("step", b.step(x, moves % 2 == 0 ? 0 : 5, x == 0 ? 1 : 3, 1), -1);
    }

    private static void sizes() {
        sentence("6 each; 6, 6 at first)");
        FoldedBoard b = new FoldedBoard();
        int bad = 0;
        for (int w = -1; w < 9; w++) {
            for (int h = -1; h < 9; h++) {
                boolean told = w >= 2 && w <= 6 && h >= 2 && h <= 6;
                due("board(" + w + ", " + h + ")", b.board(w, h), told ? w * h : -2);
                bad += told ? 0 : 1;
            }
        }
        dueStatus(b, bad, 0, 0);
    }

    private static void firstSize() {
        sentence("6, 6 at first");
        FoldedBoard b = new FoldedBoard();
        due("count(0)", b.count(0), 36);
        due("cell(35, 0)", b.cell(35, 0), 5);
        due("cell(35, 1)", b.cell(35, 1), 5);
        due("pile(5, 5, -1)", b.pile(5, 5, -1), 1);
        due("pile(6, 5, -1)", b.pile(6, 5, -1), 0);
        due("pile(5, 6, -1)", b.pile(5, 6, -1), 0);
        due("pile(-1, 0, -1)", b.pile(-1, 0, -1), 0);
        due("pile(0, -1, -1)", b.pile(0, -1, -1), 0);
    }

    private static void numbers() {
        sentence("CELL 6 y and x");
        int[][] sizes = {{2, 2}, {2, 6}, {6, 2}, {3, 5}, {6, 6}};
        for (int[] wh : sizes) {
            FoldedBoard b = new FoldedBoard();
            b.board(wh[0], wh[1]);
            for (int c = -2; c < 40; c++) {
                boolean there = c >= 0 && c % 6 < wh[0] && c / 6 < wh[1];
                due("cell(" + c + ", 0)", b.cell(c, 0), there ? c % 6 : -1000);
                due("cell(" + c + ", 1)", b.cell(c, 1), there ? c / 6 : -1000);
            }
            due("pile(last)", b.pile(wh[0] - 1, wh[1] - 1, 0), 6 * (wh[1] - 1) + wh[0] - 1);
        }
    }

    private static void noHolesAtFirst() {
        sentence("some CELLS are missing (HOLES; none at first)");
        FoldedBoard b = new FoldedBoard();
        for (int c = 0; c < 36; c++) {
            due("pile of " + c, b.pile(c % 6, c / 6, 0), c);
        }
        for (int c = 0; c < 36; c++) {
            due("hole(" + c + ")", b.hole(c), 1);
            due("count(0)", b.count(0), 35 - c);
            due("pile of " + c, b.pile(c % 6, c / 6, -1), 0);
        }
        due("hole(0)", b.hole(0), -3);
        due("hole(35)", b.hole(35), -3);
    }

    private static void threeFoldsAsTheyCame() {
        sentence("FOLDS 0 .. 2, as they came.");
        FoldedBoard b = dueAtOnce(3, 3, 3);
        int[] before = {9, 1, 0, 1, 3, 3, 0, 1, 2, 6, 7, 8, 12, 13, 14, 0, 0, 5, 6, 1, 3, 1, 3};
        due("digest(), no FOLD", b.digest(), hash(before));
        due("fold(1, 2, 0)", b.fold(1, 2, 0), 2);
        due("fold(0, 1, 1)", b.fold(0, 1, 1), 1);
        due("fold(1, 1, 0)", b.fold(1, 1, 0), 0);
        due("state(3)", b.state(3), 3);
        due("a fourth, that may be", b.folds(0), 220);
        due("fold(0, 2, 0)", b.fold(0, 2, 0), -3);
        due("digest(), three", b.digest(), hash(9, 1, 0, 4, 3, 3, 0, 1, 2, 6, 7, 8, 12, 13, 14, 0, 0, 5, 6,
            1, 3, 1, 0, 1, 2, 0, 0, 1, 1, 1, 1, 0));
        b.undo();
        due("the last one goes first", b.digest(), hash(9, 1, 0, 3, 3, 3, 0, 1, 2, 6, 7, 8, 12, 13, 14, 0, 0, 5, 6,
            1, 3, 1, 1, 1, 2, 0, 0, 1, 1));
    }

    private static void flatAtFirst() {
        sentence("flat at first: its own x, y, LAYER 0, UP.");
        FoldedBoard b = new FoldedBoard();
        for (int c = 0; c < 36; c++) {
            dueCell(b, c, c % 6, c / 6, 0, 0);
        }
        due("state(3)", b.state(3), 0);
    }

    private static void lineItself() {
        sentence("CELLS whose x (y) is l or more move (way 0), or those whose is less (way 1)");
        for (int i = 0; i < 20; i++) {
            int axis = i / 10;
            int line = i % 10 / 2 + 1;
            int way = i % 2;
            FoldedBoard b = dueAtOnce(6, 6, 1);
            due("fold(" + axis + ", " + line + ", " + way + ")", b.fold(axis, line, way), 0);
            for (int c = 0; c < 36; c++) {
                int at = axis == 0 ? c % 6 : c / 6;
                boolean moves = way == 0 ? at >= line : at < line;
                due("cell(" + c + ", 2)", b.cell(c, 2), moves ? 1 : 0);
                due("cell(" + c + ", 3)", b.cell(c, 3), moves ? 1 : 0);
            }
        }
    }

    private static void mirrored() {
        sentence("x (y) becomes 2 l less 1 less x (y)");
        for (int i = 0; i < 20; i++) {
            int axis = i / 10;
            int line = i % 10 / 2 + 1;
            int way = i % 2;
            FoldedBoard b = dueAtOnce(6, 6, 1);
            b.fold(axis, line, way);
            for (int c = 0; c < 36; c++) {
                int at = axis == 0 ? c % 6 : c / 6;
                boolean moves = way == 0 ? at >= line : at < line;
                int then = moves ? 2 * line - 1 - at : at;
                due("cell(" + c + ", axis)", b.cell(c, axis), then);
                due("cell(" + c + ", the other)", b.cell(c, 1 - axis), axis == 0 ? c / 6 : c % 6);
            }
        }
        // the least and the greatest there may be
        FoldedBoard least = dueAtOnce(6, 2, 3);
        least.fold(0, 1, 0);
        least.fold(0, -3, 0);
        due("fold(0, -6, 0)", least.fold(0, -6, 0), 0);
        int[] low = {-7, -7, -7, -8, -9, -9};
        FoldedBoard greatest = dueAtOnce(6, 2, 3);
        greatest.fold(0, 5, 1);
        greatest.fold(0, 9, 1);
        due("fold(0, 12, 1)", greatest.fold(0, 12, 1), 0);
        int[] high = {14, 14, 13, 12, 12, 12};
        for (int c = 0; c < 6; c++) {
            due("least: cell(" + c + ", 0)", least.cell(c, 0), low[c]);
            due("greatest: cell(" + c + ", 0)", greatest.cell(c, 0), high[c]);
        }
    }

    private static void greatestLayer() {
        sentence("LAYER the greatest LAYER of all twice, and 1, less LAYER");
        // a column at a time: 1, then 2, then (of the greatest, 2, twice, and 1) 5, 4, 3
        FoldedBoard b = dueAtOnce(3, 2, 3);
        b.fold(0, 1, 0);
        dueCell(b, 0, 0, 0, 0, 0);
        dueCell(b, 1, 0, 0, 1, 1);
        dueCell(b, 2, -1, 0, 1, 1);
        b.fold(0, 0, 1);
        dueCell(b, 0, 0, 0, 0, 0);
        dueCell(b, 1, 0, 0, 1, 1);
        dueCell(b, 2, 0, 0, 2, 0);
        b.fold(1, 1, 0);
        duePile(b, 0, 0, 0, 1, 2, 8, 7, 6);
        due("cell(6, 2)", b.cell(6, 2), 5);
        due("cell(8, 2)", b.cell(8, 2), 3);
        // the greatest of all may lie where nothing moves
        FoldedBoard c = dueAtOnce(6, 2, 2);
        c.fold(0, 5, 0);
        due("cell(5, 2)", c.cell(5, 2), 1);
        due("fold(0, 1, 1)", c.fold(0, 1, 1), 0);
        due("cell(0, 2)", c.cell(0, 2), 3);
        // the greatest there is: 7
        FoldedBoard d = foldedInThree();
        due("cell(7, 2)", d.cell(7, 2), 7);
        due("cell(6, 2)", d.cell(6, 2), 0);
        // behind an undo(), and behind all were undone, it is 0 again
        FoldedBoard e = backAndForth();
        e.put(0, 1);
        for (int i = 0; i < 3; i++) {
            moveBackAndForth(e, 2 * i);
            e.fold(0, 5, 0);
            due("cell(5, 2)", e.cell(5, 2), 1);
            e.undo();
            e.fold(0, 4, 0);
            due("cell(5, 2)", e.cell(5, 2), 1);
            due("cell(3, 2)", e.cell(3, 2), 0);
            moveBackAndForth(e, 2 * i + 1);
            due("cell(5, 2)", e.cell(5, 2), 0);
        }
    }

    private static void turnedAgain() {
        sentence("UP turns DOWN, DOWN UP.");
        FoldedBoard b = dueAtOnce(2, 4, 3);
        int[] downs = {0, 0, 0, 0};
        int[][] folds = {{0, 1, 0}, {1, 2, 0}, {1, 1, 1}};
        int[][] moved = {{0, 1, 0, 1}, {0, 0, 1, 1}, {1, 1, 1, 1}};
        int[] cells = {0, 1, 18, 19};
        for (int f = 0; f < 3; f++) {
            due("fold", b.fold(folds[f][0], folds[f][1], folds[f][2]), 2 - f);
            for (int i = 0; i < 4; i++) {
                downs[i] ^= moved[f][i];
                due("cell(" + cells[i] + ", 3)", b.cell(cells[i], 3), downs[i]);
            }
        }
    }

    private static void someMoveSomeDoNot() {
        sentence("It may be, if some CELLS move and some do not");
        int[] lines = {LOW, LOW + 1, -20, -1, 0, 1, 2, 3, 4, 5, 6, 7, 20, HIGH - 1, HIGH};
        for (int axis = 0; axis < 2; axis++) {
            for (int way = 0; way < 2; way++) {
                FoldedBoard b = dueAtOnce(5, 3, 1);
                for (int l : lines) {
                    boolean may = l >= 1 && l <= (axis == 0 ? 4 : 2);
                    due("fold(" + axis + ", " + l + ", " + way + ")", b.fold(axis, l, way), may ? 0 : -3);
                    if (may) {
                        due("undo()", b.undo(), 1);
                    }
                }
            }
        }
        // by where they lie now: 0, 1, 2 lie at 5, 4, 3
        FoldedBoard c = dueAtOnce(6, 2, 2);
        c.fold(0, 3, 1);
        due("fold(0, 3, 0)", c.fold(0, 3, 0), -3);
        due("fold(0, 6, 0)", c.fold(0, 6, 0), -3);
        due("fold(0, 4, 0)", c.fold(0, 4, 0), 0);
        c.undo();
        due("fold(0, 5, 0)", c.fold(0, 5, 0), 0);
    }

    private static void holesNeverCount() {
        sentence("(HOLES never count)");
        int[][] missing = {{0, 6, 12}, {1, 7, 13}, {2, 8, 14}, {0, 1, 2}, {6, 7, 8}, {12, 13, 14}};
        int[][] want = {{220, 221, 1210, 1211, 1220, 1221}, {210, 211, 220, 221, 1210, 1211, 1220, 1221},
            {210, 211, 1210, 1211, 1220, 1221}, {210, 211, 220, 221, 1220, 1221},
            {210, 211, 220, 221, 1210, 1211, 1220, 1221}, {210, 211, 220, 221, 1210, 1211}};
        for (int i = 0; i < 6; i++) {
            FoldedBoard b = new FoldedBoard();
            b.board(3, 3);
            holes(b, missing[i]);
            dueFolds(b, want[i]);
        }
        // nor for the greatest LAYER: the one CELL that lay over another is no more
        FoldedBoard b = new FoldedBoard();
        b.board(3, 2);
        holes(b, 2, 8);
        b.put(0, 1);
        b.put(1, 2);
        b.man(0, 0, 5, 0);
        b.step(0, 0, 2, 1);
        due("fold(0, 2, 0)", b.fold(0, 2, 0), -3);
        due("fold(0, 3, 1)", b.fold(0, 3, 1), -3);
        due("fold(1, 1, 0)", b.fold(1, 1, 0), 1);
        due("fold(0, 1, 0)", b.fold(0, 1, 0), 0);
        duePile(b, 0, 0, 0, 6, 7, 1);
        due("cell(1, 2)", b.cell(1, 2), 3);
    }

    private static void eightMen() {
        sentence("MEN 0 .. 7, as they come");
        FoldedBoard b = new FoldedBoard();
        for (int i = 0; i < 8; i++) {
            due("where(" + i + ")", b.where(i), -2);
            due("man", b.man(0, i % 2, 1, 35 - i), i);
            due("where(" + i + ")", b.where(i), 35 - i);
        }
        due("a ninth", b.man(0, 0, 1, 0), -4);
        due("where(8)", b.where(8), -2);
        due("count(1)", b.count(1), 8);
    }

    private static void ownersAndHeights() {
        sentence("a KIND, OWNER (0, 1), HEIGHT (1 .. 9), on a CELL each");
        FoldedBoard b = new FoldedBoard();
        for (int v = -2; v < 12; v++) {
            b.board(6, 6);
            due("kind " + v, b.man(v, 0, 5, 0), v >= 0 && v <= 4 ? 0 : -2);
            b.board(6, 6);
            due("owner " + v, b.man(0, v, 5, 0), v >= 0 && v <= 1 ? 0 : -2);
            b.board(6, 6);
            due("height " + v, b.man(0, 0, v, 0), v >= 1 && v <= 9 ? 0 : -2);
        }
        b.board(6, 6);
        due("the first CELL", b.man(0, 0, 5, 0), 0);
        due("the last CELL", b.man(0, 0, 5, 35), 1);
        due("none", b.man(0, 0, 5, 36), -2);
        due("none", b.man(0, 0, 5, -1), -2);
    }

    private static void noTwoOnOne() {
        sentence("(no two on one)");
        FoldedBoard b = new FoldedBoard();
        b.man(0, 0, 5, 0);
        due("his own", b.man(0, 0, 9, 0), -2);
        due("the other one's", b.man(0, 1, 9, 0), -2);
        b.man(0, 1, 4, 1);
        due("step(0, 0, 1, 1)", b.step(0, 0, 1, 1), 1);
        due("where he was TAKEN another one stands", b.man(0, 1, 4, 1), -2);
        due("where he came from nobody does", b.man(0, 1, 4, 0), 2);
        dueStatus(b, 3, 0, 0);
    }

    /** STRENGTH of a KIND by HEIGHT: UP, DOWN, and UP again. */
    private static void dueStrengths(int kind, int up, int upTimes, int down, int downTimes) {
        for (int h = 1; h <= 9; h++) {
            FoldedBoard b = new FoldedBoard();
            b.board(2, 2);
            b.put(0, 1);
            b.put(1, 2);
            b.man(kind, 1, h, 0);
            b.man(0, 0, 5, 7);
            due("up", b.strength(0), up + upTimes * h);
            b.step(1, 1, 3, 1);
            due("fold(0, 1, 1)", b.fold(0, 1, 1), 1);
            due("down", b.strength(0), down + downTimes * h);
            due("fold(1, 1, 1)", b.fold(1, 1, 1), 0);
            due("up again", b.strength(0), up + upTimes * h);
        }
    }

    private static void strengthOfMan() {
        sentence("0 MAN: HEIGHT.");
        dueStrengths(0, 0, 1, 0, 1);
    }

    private static void strengthOfTower() {
        sentence("1 TOWER (under MAN): 2 more, if its CELL lies UP.");
        dueStrengths(1, 2, 1, 0, 1);
    }

    private static void strengthOfMole() {
        sentence("2 MOLE (under MAN): 3 more, if DOWN.");
        dueStrengths(2, 0, 1, 3, 1);
    }

    private static void strengthOfGiant() {
        sentence("3 GIANT (under TOWER): twice what TOWER says.");
        dueStrengths(3, 4, 2, 0, 2);
    }

    private static void strengthOfRunner() {
        sentence("4 RUNNER (under MAN): as MAN.");
        dueStrengths(4, 0, 1, 0, 1);
    }

    /** 0 and 6 come to lie together; 7 steps ahead of that. */
    private static FoldedBoard twoTogether(int kindAt0, int heightAt0, int kindAt6, int heightAt6, int way) {
        FoldedBoard b = new FoldedBoard();
        b.board(2, 2);
        b.put(0, 1);
        b.man(0, 0, 1, 7);
        b.man(kindAt0, 1, heightAt0, 0);
        b.man(kindAt6, 1, heightAt6, 6);
        b.step(1, 1, 0, 1);
        due("fold(1, 1, " + way + ")", b.fold(1, 1, way), 0);
        return b;
    }

    private static void strongestRules() {
        sentence("RULER of a POSITION: of MEN on its CELLS the strongest");
        for (int way = 0; way < 2; way++) {
            due("4 and 5", twoTogether(0, 4, 0, 5, way).ruler(0, way), 2);
            due("5 and 4", twoTogether(0, 5, 0, 4, way).ruler(0, way), 1);
        }
        // by STRENGTH, not by HEIGHT: a TOWER that lies DOWN is 5, a MOLE that does 6
        due("a TOWER DOWN", twoTogether(0, 6, 1, 5, 0).ruler(0, 0), 1);
        due("a TOWER UP", twoTogether(1, 5, 0, 6, 0).ruler(0, 0), 1);
        due("a MOLE DOWN", twoTogether(0, 5, 2, 3, 0).ruler(0, 0), 2);
        due("a MOLE UP", twoTogether(2, 5, 0, 6, 0).ruler(0, 0), 2);
        FoldedBoard b = twoTogether(0, 5, 0, 5, 0);
        due("nobody lies there", b.ruler(0, 1), -1);
        due("nobody lies there", b.ruler(-1, 0), -1);
        due("nobody lies there", b.ruler(2, 0), -1);
    }

    private static void ofLikeOnesTheUpper() {
        sentence("of like ones the one with the greatest LAYER.");
        for (int h = 1; h <= 9; h++) {
            due("6 comes over 0", twoTogether(0, h, 0, h, 0).ruler(0, 0), 2);
            due("0 comes over 6", twoTogether(0, h, 0, h, 1).ruler(0, 1), 1);
        }
        // of four CELLS in a pile, whoever of them came first
        int[][] cells = {{6, 7}, {7, 6}};
        for (int[] c : cells) {
            FoldedBoard b = new FoldedBoard();
            b.board(2, 2);
            b.put(0, 1);
            b.put(1, 2);
            b.man(0, 0, 1, 0);
            b.man(0, 1, 5, c[0]);
            b.man(0, 1, 5, c[1]);
            b.step(0, 0, 1, 1);
            b.fold(0, 1, 0);
            b.fold(1, 1, 0);
            duePile(b, 0, 0, 0, 1, 7, 6);
            due("the one on 6", b.ruler(0, 0), c[0] == 6 ? 1 : 2);
        }
        due("of other KINDS, too", twoTogether(1, 3, 2, 2, 0).ruler(0, 0), 2);
        due("of other KINDS, too", twoTogether(2, 2, 1, 3, 1).ruler(0, 1), 1);
    }

    private static void noMovesAtFirst() {
        sentence("MOVES so far (0 at first)");
        FoldedBoard b = backAndForth();
        due("state(0)", b.state(0), 0);
        due("refused", b.step(0, 0, 0, 1), -20);
        due("refused", b.step(0, 0, 0, 0), -10);
        due("state(0)", b.state(0), 0);
        b.put(0, 1);
        b.step(0, 0, 1, 1);
        due("state(0)", b.state(0), 1);
        b.fold(0, 5, 0);
        due("a FOLD is none", b.state(0), 1);
        b.undo();
        due("state(0)", b.state(0), 1);
        b.undo();
        due("state(0)", b.state(0), 0);
    }

    private static void turnWrapsAround() {
        sentence("on turn is OWNER MOVES by 2 left over");
        FoldedBoard b = backAndForth();
        for (int i = 0; i < 6; i++) {
            due("state(0)", b.state(0), i);
            due("state(1)", b.state(1), i % 2);
            moveBackAndForth(b, i);
        }
    }

    private static void ofTheOneOnTurn() {
        sentence("A STEP of the RULER of a POSITION, who is of the one on turn");
        FoldedBoard b = backAndForth();
        due("1 is not on turn", b.step(0, 5, 1, 1), -20);
        due("nobody is there", b.step(3, 3, 1, 1), -20);
        due("0 is", b.step(0, 0, 1, 1), -1);
        due("0 is not", b.step(1, 0, 1, 1), -20);
        due("1 is", b.step(0, 5, 1, 1), -1);
        dueStatus(b, 0, 3, 0);
        // who is under another does not step: the other one's rules, so nobody does
        FoldedBoard c = new FoldedBoard();
        c.board(3, 2);
        c.put(0, 1);
        c.man(0, 0, 6, 7);
        c.man(0, 1, 5, 1);
        c.step(1, 1, 3, 1);
        c.fold(1, 1, 0);
        due("RULER of his own POSITION", c.step(1, 0, 1, 1), -1);
        FoldedBoard d = new FoldedBoard();
        d.board(3, 2);
        d.put(0, 1);
        d.man(0, 0, 6, 8);
        d.man(0, 1, 5, 1);
        d.step(2, 1, 3, 1);
        d.fold(1, 1, 0);
        due("ruler(1, 0)", d.ruler(1, 0), 0);
        due("the other one rules him", d.step(1, 0, 1, 1), -20);
    }

    private static void ways() {
        sentence("by a WAY (0 y less, 1 x more, 2 y more, 3 x less)");
        for (int w = -2; w < 6; w++) {
            FoldedBoard b = new FoldedBoard();
            b.man(0, 0, 5, 14);
            boolean told = w >= 0 && w < 4;
            due("step(2, 2, " + w + ", 1)", b.step(2, 2, w, 1), told ? -1 : -10);
            due("where(0)", b.where(0), told ? 14 + 6 * AROUND_Y[w] + AROUND_X[w] : 14);
            dueStatus(b, told ? 0 : 1, 0, 0);
        }
    }

    private static void howFar() {
        sentence("1 far, a RUNNER also 2");
        for (int kind = 0; kind < 5; kind++) {
            for (int d = -1; d < 5; d++) {
                FoldedBoard b = new FoldedBoard();
                b.man(kind, 0, 5, 14);
                int want = d < 1 || d > 2 ? -10 : d == 2 && kind != 4 ? -20 : -1;
                due("step(2, 2, 1, " + d + ") of KIND " + kind, b.step(2, 2, 1, d), want);
                due("where(0)", b.where(0), want == -1 ? 14 + d : 14);
            }
        }
        for (int w = 0; w < 4; w++) {
            FoldedBoard b = new FoldedBoard();
            b.man(4, 0, 5, 14);
            due("2 far by " + w, b.step(2, 2, w, 2), -1);
            due("where(0)", b.where(0), 14 + 2 * (6 * AROUND_Y[w] + AROUND_X[w]));
        }
    }

    private static void overWhat() {
        sentence("(over a POSITION with a CELL and without MEN)");
        for (int w = 0; w < 4; w++) {
            int between = 14 + 6 * AROUND_Y[w] + AROUND_X[w];
            FoldedBoard hole = new FoldedBoard();
            hole.man(4, 0, 9, 14);
            hole.hole(between);
            due("over a HOLE", hole.step(2, 2, w, 2), -20);
            for (int owner = 0; owner < 2; owner++) {
                FoldedBoard man = new FoldedBoard();
                man.man(4, 0, 9, 14);
                man.man(0, owner, 1, between);
                due("over a MAN of " + owner, man.step(2, 2, w, 2), -20);
                due("status(1)", man.status(1), 1);
            }
        }
        // one who lies under is a MAN there, too
        FoldedBoard b = new FoldedBoard();
        b.board(3, 2);
        b.put(0, 1);
        b.man(0, 0, 1, 8);
        b.man(4, 1, 9, 0);
        b.man(0, 0, 1, 7);
        b.step(2, 1, 0, 1);
        due("fold(1, 1, 1)", b.fold(1, 1, 1), 0);
        due("where(2), under 1", b.pile(1, 1, 0), 7);
        due("over who lies under", b.step(0, 1, 1, 2), -20);
    }

    private static void toACell() {
        sentence("to a POSITION with a CELL;");
        int[][] corners = {{0, 0, 0, 3}, {5, 0, 0, 1}, {5, 5, 2, 1}, {0, 5, 2, 3}};
        for (int[] c : corners) {
            for (int far = 1; far < 3; far++) {
                FoldedBoard b = new FoldedBoard();
                b.man(4, 0, 9, 6 * c[1] + c[0]);
                due("off the board", b.step(c[0], c[1], c[2], far), -20);
                due("off the board", b.step(c[0], c[1], c[3], far), -20);
                dueStatus(b, 0, 2, 0);
            }
        }
        for (int w = 0; w < 4; w++) {
            FoldedBoard b = new FoldedBoard();
            b.man(0, 0, 9, 14);
            holes(b, 14 + 6 * AROUND_Y[w] + AROUND_X[w]);
            due("a HOLE", b.step(2, 2, w, 1), -20);
            // a RUNNER beside the edge: 1 far is there, 2 far is not
            FoldedBoard e = new FoldedBoard();
            e.board(3, 3);
            e.man(4, 0, 9, 7);
            due("2 far", e.step(1, 1, w, 2), -20);
            due("1 far", e.step(1, 1, w, 1), -1);
        }
        // behind a FOLD by x at 1 there are POSITIONS below 0, and none from 1 on
        FoldedBoard c = dueAtOnce(4, 2, 1);
        c.man(0, 1, 5, 1);
        c.fold(0, 1, 0);
        due("none at 1", c.step(0, 0, 1, 1), -20);
        due("one at -1", c.step(0, 0, 3, 1), -1);
        due("where(1)", c.where(1), 2);
    }

    private static void nobodyThere() {
        sentence("nobody there: he comes on the CELL with the greatest LAYER");
        // on a pile of one, of two, of four, the last with a CELL of the greatest number below
        FoldedBoard one = new FoldedBoard();
        one.man(0, 0, 5, 0);
        due("step(0, 0, 1, 1)", one.step(0, 0, 1, 1), -1);
        due("where(0)", one.where(0), 1);
        FoldedBoard two = dueAtOnce(4, 2, 1);
        two.man(0, 1, 5, 1);
        two.fold(0, 2, 1);
        duePile(two, 3, 0, 3, 0);
        due("step(2, 0, 1, 1)", two.step(2, 0, 1, 1), -1);
        due("where(1)", two.where(1), 0);
        FoldedBoard four = dueAtOnce(6, 2, 2);
        four.man(0, 1, 5, 1);
        four.fold(0, 3, 0);
        four.fold(1, 1, 1);
        duePile(four, 2, 1, 8, 9, 3, 2);
        due("step(1, 1, 1, 1)", four.step(1, 1, 1, 1), -1);
        due("where(1)", four.where(1), 2);
        // a RUNNER, 2 far, too: nobody stays at 0, 0
        FoldedBoard runner = dueAtOnce(6, 2, 1);
        runner.man(4, 1, 5, 2);
        runner.fold(0, 3, 0);
        duePile(runner, 0, 0, 0, 5);
        due("step(2, 0, 3, 2)", runner.step(2, 0, 3, 2), -1);
        due("where(1)", runner.where(1), 5);
    }

    /** A MAN of 5 beside one of the other OWNER, or of his own. */
    private static int stepOn(int kind, int owner, int height) {
        FoldedBoard b = new FoldedBoard();
        b.man(0, 0, 5, 0);
        b.man(kind, owner, height, 1);
        return b.step(0, 0, 1, 1);
    }

    private static void weaker() {
        sentence("the other one's RULER there, weaker than he is where he comes from");
        for (int h = 1; h <= 9; h++) {
            due("a MAN of " + h, stepOn(0, 1, h), h < 5 ? 1 : -20);
            due("a TOWER of " + h, stepOn(1, 1, h), h < 3 ? 1 : -20);
            due("a MOLE of " + h, stepOn(2, 1, h), h < 5 ? 1 : -20);
            due("a GIANT of " + h, stepOn(3, 1, h), -20);
            due("a RUNNER of " + h, stepOn(4, 1, h), h < 5 ? 1 : -20);
            due("his own of " + h, stepOn(0, 0, h), -20);
        }
    }

    private static void strengthWhereHeComesFrom() {
        sentence("weaker than he is where he comes from");
        // 0 lies UP at 0, 1 and what is right of it DOWN, or the other way round
        for (int way = 0; way < 2; way++) {
            for (int h = 1; h <= 9; h++) {
                FoldedBoard b = new FoldedBoard();
                b.board(4, 2);
                holes(b, 3, 9);
                b.put(0, 1);
                b.man(0, 0, 1, 8);
                b.man(1, 1, 4, 0);
                b.man(0, 0, h, 2);
                b.step(2, 1, 3, 1);
                due("fold(0, 2, " + way + ")", b.fold(0, 2, way), 0);
                // way 0: 2 lies at 1, DOWN, the TOWER at 0 UP; way 1: the TOWER lies at 3, DOWN, 2 at 2 UP
                int power = way == 0 ? 6 : 4;
                int got = way == 0 ? b.step(0, 0, 1, 1) : b.step(3, 0, 3, 1);
                due("the TOWER on " + h, got, h < power ? 2 : -20);
            }
        }
    }

    private static void takenIsInNoMore() {
        sentence("that one is TAKEN (is in no more), he comes on his CELL");
        FoldedBoard b = new FoldedBoard();
        b.board(3, 2);
        b.put(0, 1);
        b.man(0, 0, 1, 8);
        b.man(0, 1, 9, 0);
        b.man(0, 0, 4, 1);
        b.man(0, 0, 3, 7);
        b.step(2, 1, 0, 1);
        // 7 comes over 1, but the one on 1 is the stronger
        b.fold(1, 1, 0);
        duePile(b, 1, 0, 1, 7);
        due("takes the RULER, not the upper one", b.step(0, 0, 1, 1), 2);
        due("where(1)", b.where(1), 1);
        due("where(2)", b.where(2), -1);
        due("where(3)", b.where(3), 7);
        due("strength(2)", b.strength(2), -2);
        due("count(1)", b.count(1), 4);
        due("BEHIND", b.state(4), 0);
        due("his CELL is the taker's", b.man(0, 0, 1, 1), -2);
    }

    private static void elseItMayNotBe() {
        sentence("else it may not be.");
        FoldedBoard b = new FoldedBoard();
        b.man(0, 0, 9, 0);
        b.man(0, 0, 1, 1);
        b.man(0, 1, 9, 6);
        long before = b.digest();
        due("his own, weaker", b.step(0, 0, 1, 1), -20);
        due("the other one's, as strong", b.step(0, 0, 2, 1), -20);
        due("off the board", b.step(0, 0, 3, 1), -20);
        due("off the board", b.step(0, 0, 0, 1), -20);
        due("digest()", b.digest(), before);
        dueStatus(b, 0, 4, 0);
        // his own is the RULER over the other one's, weaker than both
        FoldedBoard c = new FoldedBoard();
        c.board(3, 2);
        c.put(0, 1);
        c.man(0, 0, 1, 8);
        c.man(0, 1, 9, 0);
        c.man(0, 1, 4, 1);
        c.man(0, 0, 3, 7);
        c.step(2, 1, 0, 1);
        c.fold(1, 1, 0);
        due("his own rules there", c.step(0, 0, 1, 1), -20);
    }

    private static void everyAndTimes() {
        sentence("EVERY (1 .. 9; 7 at first), TIMES (1 .. 3; 1)");
        FoldedBoard b = backAndForth();
        for (int i = 1; i <= 7; i++) {
            moveBackAndForth(b, i - 1);
            due("DUE behind " + i, b.state(2), i == 7 ? 1 : 0);
        }
        FoldedBoard c = new FoldedBoard();
        int every = 7;
        int times = 1;
        for (int v = -1; v < 12; v++) {
            boolean toEvery = v >= 1 && v <= 9;
            boolean toTimes = v >= 1 && v <= 3;
            due("put(0, " + v + ")", c.put(0, v), toEvery ? every : -2);
            due("put(1, " + v + ")", c.put(1, v), toTimes ? times : -2);
            every = toEvery ? v : every;
            times = toTimes ? v : times;
        }
    }

    private static void movesByEvery() {
        sentence("behind a STEP by which MOVES by EVERY leave nothing: if MOVES by EVERY is odd, TIMES FOLDS are DUE");
        for (int every = 1; every <= 9; every++) {
            FoldedBoard b = backAndForth();
            b.put(0, every);
            for (int moves = 1; moves <= 5 * every; moves++) {
                moveBackAndForth(b, moves - 1);
                boolean odd = moves % every == 0 && moves / every % 2 == 1;
                due("DUE behind " + moves + " by " + every, b.state(2), odd ? 1 : 0);
                due("FOLDS behind " + moves + " by " + every, b.state(3),
                    odd ? 0 : moves / every % 2);
                if (odd) {
                    due("fold(0, 5, 0)", b.fold(0, 5, 0), 0);
                }
            }
        }
        for (int times = 1; times <= 3; times++) {
            FoldedBoard b = backAndForth();
            b.put(0, 2);
            b.put(1, times);
            moveBackAndForth(b, 0);
            due("behind 1", b.state(2), 0);
            moveBackAndForth(b, 1);
            due("behind 2", b.state(2), times);
        }
    }

    private static void noMoreThanThree() {
        sentence("(no more than make 3 with those there are)");
        for (int there = 1; there <= 3; there++) {
            for (int times = 1; times <= 3; times++) {
                FoldedBoard b = backAndForth();
                b.put(0, 1);
                b.put(1, there);
                moveBackAndForth(b, 0);
                for (int i = 0; i < there; i++) {
                    // from the right: 5, then 4 with it, then 3 with both
                    due("fold", b.fold(0, 5 - i, 0), there - 1 - i);
                }
                b.put(0, 3);
                b.put(1, times);
                moveBackAndForth(b, 1);
                due("behind 2", b.state(2), 0);
                moveBackAndForth(b, 2);
                due("DUE: " + times + " with " + there, b.state(2), Math.min(times, 3 - there));
                due("state(3)", b.state(3), there);
            }
        }
    }

    private static void allUndone() {
        sentence("else all FOLDS are undone, last one first.");
        for (int times = 1; times <= 3; times++) {
            FoldedBoard b = backAndForth();
            b.put(0, 1);
            b.put(1, times);
            moveBackAndForth(b, 0);
            for (int i = 0; i < times; i++) {
                b.fold(0, 5 - i, 0);
            }
            due("state(3)", b.state(3), times);
            moveBackAndForth(b, 1);
            due("state(3)", b.state(3), 0);
            due("state(2)", b.state(2), 0);
            for (int c = 0; c < 36; c++) {
                dueCell(b, c, c % 6, c / 6, 0, 0);
            }
        }
        // there are none
        FoldedBoard c = backAndForth();
        moveBackAndForth(c, 0);
        c.put(0, 1);
        moveBackAndForth(c, 1);
        due("state(2)", c.state(2), 0);
        due("state(3)", c.state(3), 0);
    }

    private static void noStepWhileDue() {
        sentence("While FOLDS are DUE there is no STEP");
        FoldedBoard b = backAndForth();
        b.put(0, 1);
        b.put(1, 2);
        moveBackAndForth(b, 0);
        for (int i = 0; i < 2; i++) {
            due("step(0, 5, 1, 1)", b.step(0, 5, 1, 1), -20);
            due("step(1, 0, 3, 1)", b.step(1, 0, 3, 1), -20);
            due("fold", b.fold(0, 5 - i, 0), 1 - i);
        }
        dueStatus(b, 0, 4, 0);
        due("step(0, 5, 1, 1)", b.step(0, 5, 1, 1), -1);
    }

    private static void oneFewer() {
        sentence("each FOLD makes them one fewer");
        FoldedBoard b = dueAtOnce(6, 6, 3);
        for (int i = 0; i < 3; i++) {
            due("state(2)", b.state(2), 3 - i);
            due("refused", b.fold(0, 99, 0), -3);
            due("state(2)", b.state(2), 3 - i);
            due("fold", b.fold(0, 5 - i, 0), 2 - i);
            due("state(3)", b.state(3), i + 1);
        }
        due("none is DUE", b.fold(0, 1, 0), -3);
    }

    private static void noneMayBe() {
        sentence("if no FOLD may be, none is DUE.");
        FoldedBoard b = dueAtOnce(2, 2, 3);
        due("fold(0, 1, 0)", b.fold(0, 1, 0), 2);
        due("all lie together", b.fold(1, 1, 0), 0);
        due("state(2)", b.state(2), 0);
        due("state(3)", b.state(3), 2);
        due("folds(-1)", b.folds(-1), 0);
        due("undo()", b.undo(), 1);
        due("state(2)", b.state(2), 2);
        // two CELLS alone: one FOLD
        FoldedBoard c = new FoldedBoard();
        c.board(2, 2);
        holes(c, 1, 7);
        c.put(0, 1);
        c.put(1, 3);
        c.man(0, 0, 5, 0);
        c.step(0, 0, 2, 1);
        due("state(2)", c.state(2), 3);
        due("fold(1, 1, 1)", c.fold(1, 1, 1), 0);
        due("state(2)", c.state(2), 0);
    }

    private static void behind() {
        sentence("BEHIND: whose STRENGTHS of all MEN together are less");
        FoldedBoard b = new FoldedBoard();
        b.man(0, 0, 5, 0);
        due("5 and none", b.state(4), 1);
        b.man(0, 1, 4, 35);
        due("5 and 4", b.state(4), 1);
        b.man(0, 1, 2, 34);
        due("5 and 6", b.state(4), 0);
        b.man(1, 0, 1, 1);
        due("8 and 6", b.state(4), 1);
        b.man(3, 1, 1, 33);
        due("8 and 12", b.state(4), 0);
        // not by how many they are, and the TAKEN do not count
        FoldedBoard c = new FoldedBoard();
        c.man(0, 0, 5, 0);
        c.man(0, 1, 4, 1);
        c.man(0, 1, 4, 35);
        due("5 and 8", c.state(4), 0);
        c.step(0, 0, 1, 1);
        due("5 and 4", c.state(4), 1);
    }

    private static void behindAlike() {
        sentence("alike: who is on turn.");
        FoldedBoard none = new FoldedBoard();
        due("nobody", none.state(4), 0);
        FoldedBoard b = backAndForth();
        for (int i = 0; i < 4; i++) {
            due("5 and 5 behind " + i, b.state(4), i % 2);
            moveBackAndForth(b, i);
        }
        // the TAKEN count as nothing
        FoldedBoard c = new FoldedBoard();
        c.man(0, 0, 5, 0);
        c.man(0, 1, 4, 1);
        c.man(0, 1, 5, 35);
        due("5 and 9", c.state(4), 0);
        c.step(0, 0, 1, 1);
        due("5 and 5, 1 is on turn", c.state(4), 1);
    }

    private static void won() {
        sentence("WON: by who has MEN, if the other one has none and some MAN was TAKEN.");
        FoldedBoard b = new FoldedBoard();
        due("nobody has MEN", b.state(5), -1);
        b.man(0, 0, 9, 0);
        due("nobody was TAKEN", b.state(5), -1);
        b.man(0, 1, 1, 1);
        due("both have", b.state(5), -1);
        b.step(0, 0, 1, 1);
        due("0 has WON", b.state(5), 0);
        b.undo();
        due("undone", b.state(5), -1);
        b.man(0, 1, 1, 35);
        b.step(0, 0, 1, 1);
        due("1 has one more", b.state(5), -1);
        FoldedBoard c = new FoldedBoard();
        c.man(0, 0, 1, 0);
        c.man(0, 1, 9, 2);
        c.step(0, 0, 1, 1);
        c.step(2, 0, 3, 1);
        due("1 has WON", c.state(5), 1);
        c.man(0, 0, 1, 35);
        due("0 has one again", c.state(5), -1);
        c.board(6, 6);
        c.man(0, 1, 9, 0);
        due("1 alone, nobody was TAKEN", c.state(5), -1);
    }
}
