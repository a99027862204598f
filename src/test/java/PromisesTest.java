/** Each promise of the document: ordinary inputs, edges, wrong inputs; what is due was worked out by hand. */
public final class PromisesTest extends Checks {
    public static void main(String[] args) {
        newObject();
        board();
        hole();
        man();
        put();
        cell();
        cellLayersThatDoNotDouble();
        pile();
        strength();
        ruler();
        where();
        step();
        stepOnPiles();
        runner();
        fold();
        foldsAndUnfolds();
        state();
        won();
        undo();
        folds();
        leaves();
        habit();
        safe();
        small();
        reach();
        wins();
        best();
        type();
        clear();
        fault();
        judge();
        image();
        from();
        status();
        count();
        digest();
        end();
    }

    private static void newObject() {
        promise(1);
        FoldedBoard b = new FoldedBoard();
        due("count(0)", b.count(0), 36);
        for (int i = 1; i < 4; i++) {
            due("count(" + i + ")", b.count(i), 0);
        }
        for (int i = 0; i < 5; i++) {
            due("state(" + i + ")", b.state(i), 0);
        }
        due("state(5)", b.state(5), -1);
        dueCell(b, 35, 5, 5, 0, 0);
        dueCell(b, 8, 2, 1, 0, 0);
        dueStatus(b, 0, 0, 0);
        int[] all = new int[4 + 2 + 36 + 4];
        int[] head = {36, 0, 0, 0, 6, 6};
        System.arraycopy(head, 0, all, 0, 6);
        for (int c = 0; c < 36; c++) {
            all[6 + c] = c;
        }
        all[42] = 7;
        all[43] = 1;
        due("digest()", b.digest(), hash(all));
        due("put(0, 7)", b.put(0, 7), 7);
        due("put(1, 1)", b.put(1, 1), 1);
        due("NONE", FoldedBoard.NONE, -1);
        due("BAD", FoldedBoard.BAD, -2);
        due("NO", FoldedBoard.NO, -3);
        due("FULL", FoldedBoard.FULL, -4);
    }

    private static void board() {
        promise(2);
        FoldedBoard b = foldedInThree();
        typeText(b, "step");
        int[][] bad = {{1, 2}, {2, 1}, {7, 6}, {6, 7}, {0, 0}, {-1, 3}, {LOW, 2}, {2, HIGH}};
        for (int[] wh : bad) {
            due("board(" + wh[0] + ", " + wh[1] + ")", b.board(wh[0], wh[1]), -2);
        }
        due("state(3)", b.state(3), 3);
        due("count(0)", b.count(0), 8);
        due("count(3)", b.count(3), 4);
        due("board(2, 3)", b.board(2, 3), 6);
        for (int i = 0; i < 5; i++) {
            due("state(" + i + ")", b.state(i), 0);
        }
        due("count(0)", b.count(0), 6);
        due("count(1)", b.count(1), 0);
        due("count(2)", b.count(2), 4);
        due("count(3)", b.count(3), 0);
        due("undo()", b.undo(), -3);
        dueCell(b, 13, 1, 2, 0, 0);
        due("put(0, 2)", b.put(0, 2), 1);
        due("put(1, 2)", b.put(1, 2), 3);
        dueStatus(b, 8, 1, 0);
        b.hole(0);
        due("board(6, 6)", b.board(6, 6), 36);
        due("board(2, 2)", b.board(2, 2), 4);
        due("board(2, 6)", b.board(2, 6), 12);
        // DUE goes with THE BOARD
        b.put(0, 1);
        b.man(0, 0, 1, 0);
        b.step(0, 0, 1, 1);
        due("state(2)", b.state(2), 2);
        b.board(2, 2);
        due("state(2)", b.state(2), 0);
    }

    private static void hole() {
        promise(3);
        FoldedBoard b = new FoldedBoard();
        b.board(5, 4);
        for (int c : new int[] {-1, 5, 11, 24, 28, 36, LOW, HIGH}) {
            due("hole(" + c + ")", b.hole(c), -2);
        }
        due("hole(22)", b.hole(22), 1);
        due("count(0)", b.count(0), 19);
        due("hole(22)", b.hole(22), -3);
        due("cell(22, 0)", b.cell(22, 0), -1000);
        due("pile(4, 3, -1)", b.pile(4, 3, -1), 0);
        b.put(0, 1);
        b.man(0, 0, 5, 0);
        b.man(0, 1, 4, 1);
        due("hole(0)", b.hole(0), -3);
        dueStatus(b, 9, 2, 0);
        b.step(0, 0, 1, 1);
        due("where(1)", b.where(1), -1);
        due("hole(7) while DUE", b.hole(7), -3);
        b.fold(0, 1, 0);
        due("hole(7) while folded", b.hole(7), -3);
        due("hole(5)", b.hole(5), -2);
        due("undo()", b.undo(), 1);
        due("undo()", b.undo(), 1);
        b.put(0, 9);
        b.step(0, 0, 1, 1);
        due("count(3)", b.count(3), 1);
        due("hole(0), left", b.hole(0), 1);
        due("count(3)", b.count(3), 0);
        due("undo()", b.undo(), -3);
        // no CELL is left
        b.board(2, 2);
        for (int c : new int[] {0, 1, 6, 7}) {
            due("hole(" + c + ")", b.hole(c), 1);
        }
        due("count(0)", b.count(0), 0);
        due("folds(-1)", b.folds(-1), 0);
        due("habit()", b.habit(), -1);
        due("small(1)", b.small(1), 0);
    }

    private static void man() {
        promise(4);
        FoldedBoard b = new FoldedBoard();
        b.board(4, 4);
        b.hole(3);
        due("man(0, 0, 1, 0)", b.man(0, 0, 1, 0), 0);
        int[][] bad = {{-1, 0, 1, 1}, {5, 0, 1, 1}, {0, -1, 1, 1}, {0, 2, 1, 1}, {0, 0, 0, 1}, {0, 0, 10, 1},
            {0, 0, 1, -1}, {0, 0, 1, 4}, {0, 0, 1, 24}, {0, 0, 1, 36}, {0, 0, 1, 3}, {0, 0, 1, 0},
            {HIGH, 0, 1, 1}, {0, LOW, 1, 1}, {0, 0, HIGH, 1}, {0, 0, 1, HIGH}, {0, 0, 1, LOW}};
        for (int[] m : bad) {
            due("man(" + m[0] + ", " + m[1] + ", " + m[2] + ", " + m[3] + ")", b.man(m[0], m[1], m[2], m[3]), -2);
        }
        due("count(1)", b.count(1), 1);
        due("man(4, 1, 9, 1)", b.man(4, 1, 9, 1), 1);
        due("man(1, 0, 1, 2)", b.man(1, 0, 1, 2), 2);
        due("man(2, 1, 9, 6)", b.man(2, 1, 9, 6), 3);
        for (int i = 4; i < 8; i++) {
            due("man(3, 0, 5, ..)", b.man(3, 0, 5, 18 + i - 4), i);
        }
        due("man(0, 0, 1, 7)", b.man(0, 0, 1, 7), -4);
        due("man(0, 0, 1, 0)", b.man(0, 0, 1, 0), -2);
        dueStatus(b, bad.length + 1, 0, 1);
        // a TAKEN one keeps his number
        b.board(2, 2);
        b.man(0, 0, 9, 0);
        b.man(0, 1, 1, 1);
        due("step(0, 0, 1, 1)", b.step(0, 0, 1, 1), 1);
        due("count(3)", b.count(3), 1);
        due("man(0, 1, 1, 0)", b.man(0, 1, 1, 0), 2);
        due("count(3)", b.count(3), 0);
        due("undo()", b.undo(), -3);
    }

    private static void put() {
        promise(5);
        FoldedBoard b = new FoldedBoard();
        due("put(0, 9)", b.put(0, 9), 7);
        due("put(0, 1)", b.put(0, 1), 9);
        due("put(1, 3)", b.put(1, 3), 1);
        due("put(1, 1)", b.put(1, 1), 3);
        int[][] bad = {{0, 0}, {0, 10}, {1, 0}, {1, 4}, {-1, 1}, {2, 1}, {LOW, 1}, {HIGH, 1}, {0, LOW}, {1, HIGH}};
        for (int[] p : bad) {
            due("put(" + p[0] + ", " + p[1] + ")", b.put(p[0], p[1]), -2);
        }
        due("put(0, 5)", b.put(0, 5), 1);
        due("put(1, 2)", b.put(1, 2), 1);
        dueStatus(b, bad.length, 0, 0);
        b.man(0, 0, 1, 0);
        b.step(0, 0, 1, 1);
        due("put(2, 1)", b.put(2, 1), -2);
        due("count(3)", b.count(3), 1);
        due("put(0, 5), as it was", b.put(0, 5), 5);
        due("count(3)", b.count(3), 0);
        b.man(0, 1, 1, 35);
        b.step(5, 5, 0, 1);
        due("put(1, 2), as it was", b.put(1, 2), 2);
        due("undo()", b.undo(), -3);
    }

    private static void cell() {
        promise(6);
        FoldedBoard b = foldedInThree();
        int[][] want = {{0, 0, 1, 3, 1}, {1, 0, 1, 4, 0}, {2, 0, 1, 5, 1}, {3, 0, 1, 2, 0},
            {6, 0, 1, 0, 0}, {7, 0, 1, 7, 1}, {8, 0, 1, 6, 0}, {9, 0, 1, 1, 1}};
        for (int[] c : want) {
            dueCell(b, c[0], c[1], c[2], c[3], c[4]);
        }
        int[][] bad = {{-1, 0}, {4, 0}, {12, 0}, {36, 0}, {0, -1}, {0, 4}, {LOW, 0}, {HIGH, 0}, {0, HIGH}, {0, LOW}};
        for (int[] c : bad) {
            due("cell(" + c[0] + ", " + c[1] + ")", b.cell(c[0], c[1]), -1000);
        }
        dueStatus(b, bad.length, 0, 0);
        b.board(2, 2);
        b.hole(7);
        due("cell(7, 1)", b.cell(7, 1), -1000);
        dueStatus(b, bad.length + 1, 0, 0);
    }

    /** The greatest LAYER is that of the CELLS there are, and need not double by a FOLD. */
    private static void cellLayersThatDoNotDouble() {
        FoldedBoard b = new FoldedBoard();
        b.board(6, 2);
        b.put(0, 1);
        b.put(1, 3);
        b.man(0, 0, 5, 0);
        b.step(0, 0, 2, 1);
        due("fold(0, 2, 0)", b.fold(0, 2, 0), 2);
        dueCell(b, 5, -2, 0, 1, 1);
        dueCell(b, 2, 1, 0, 1, 1);
        // only CELLS of LAYER 1 move
        due("fold(0, 0, 1)", b.fold(0, 0, 1), 1);
        dueCell(b, 5, 1, 0, 2, 0);
        dueCell(b, 4, 0, 0, 2, 0);
        dueCell(b, 0, 0, 0, 0, 0);
        due("fold(1, 1, 0)", b.fold(1, 1, 0), 0);
        dueCell(b, 6, 0, 0, 5, 1);
        dueCell(b, 10, 0, 0, 3, 1);
        duePile(b, 0, 0, 0, 3, 4, 10, 9, 6);
        // HOLES do not count for the greatest LAYER
        b.board(4, 2);
        b.put(1, 2);
        for (int c : new int[] {3, 9}) {
            b.hole(c);
        }
        b.man(0, 0, 5, 0);
        b.step(0, 0, 2, 1);
        due("fold(0, 3, 0)", b.fold(0, 3, 0), -3);
        due("fold(0, 2, 0)", b.fold(0, 2, 0), 1);
        due("fold(0, 0, 0)", b.fold(0, 0, 0), -3);
        due("fold(0, 1, 1)", b.fold(0, 1, 1), 0);
        dueCell(b, 0, 1, 0, 3, 1);
    }

    private static void pile() {
        promise(7);
        FoldedBoard b = foldedInThree();
        duePile(b, 0, 1, 6, 9, 3, 0, 1, 2, 8, 7);
        duePile(b, 0, 0);
        duePile(b, LOW, HIGH);
        due("pile(0, 1, HIGH)", b.pile(0, 1, HIGH), -5);
        dueStatus(b, 0, 0, 0);
        due("pile(0, 1, -2)", b.pile(0, 1, -2), -10);
        due("pile(0, 1, LOW)", b.pile(0, 1, LOW), -10);
        dueStatus(b, 2, 0, 0);
        b.undo();
        duePile(b, 0, 1, 6, 9, 3, 0);
        duePile(b, 1, 1, 7, 8, 2, 1);
        b.undo();
        duePile(b, 0, 0, 0, 3);
        duePile(b, 1, 1, 7, 8);
        duePile(b, 2, 0);
    }

    private static void strength() {
        promise(8);
        FoldedBoard b = new FoldedBoard();
        b.board(6, 2);
        b.put(0, 1);
        int[] up = {3, 5, 3, 10, 3};
        int[] down = {3, 3, 6, 6, 3};
        for (int kind = 0; kind < 5; kind++) {
            due("man", b.man(kind, 1, 3, kind), kind);
        }
        b.man(0, 0, 1, 11);
        b.man(1, 1, 9, 5);
        for (int kind = 0; kind < 5; kind++) {
            due("strength(" + kind + ") up", b.strength(kind), up[kind]);
        }
        due("step(5, 1, 3, 1)", b.step(5, 1, 3, 1), -1);
        due("fold(1, 1, 1)", b.fold(1, 1, 1), 0);
        for (int kind = 0; kind < 5; kind++) {
            due("strength(" + kind + ") down", b.strength(kind), down[kind]);
        }
        for (int m : new int[] {-1, 7, 8, LOW, HIGH}) {
            due("strength(" + m + ")", b.strength(m), -2);
        }
        dueStatus(b, 5, 0, 0);
        b.board(2, 2);
        b.man(0, 0, 9, 0);
        b.man(0, 1, 1, 1);
        b.step(0, 0, 1, 1);
        due("strength(1), taken", b.strength(1), -2);
        dueStatus(b, 6, 0, 0);
    }

    private static void ruler() {
        promise(9);
        for (int way = 0; way < 2; way++) {
            FoldedBoard b = new FoldedBoard();
            b.board(3, 2);
            b.put(0, 1);
            b.man(0, 0, 3, 0);
            b.man(0, 1, 3, 6);
            b.man(0, 0, 1, 1);
            b.man(1, 0, 1, 7);
            due("ruler(0, 0)", b.ruler(0, 0), 0);
            due("ruler(0, 1)", b.ruler(0, 1), 1);
            due("ruler(2, 0)", b.ruler(2, 0), -1);
            due("step(1, 0, 1, 1)", b.step(1, 0, 1, 1), -1);
            due("ruler(1, 0)", b.ruler(1, 0), -1);
            due("ruler(2, 0)", b.ruler(2, 0), 2);
            due("fold(1, 1, " + way + ")", b.fold(1, 1, way), 0);
            // alike: the upper one
            due("ruler(0, 0 or 1)", b.ruler(0, way), way == 0 ? 1 : 0);
            due("ruler(0, the other)", b.ruler(0, 1 - way), -1);
            due("ruler(1, ..)", b.ruler(1, way), 3);
            due("ruler(LOW, HIGH)", b.ruler(LOW, HIGH), -1);
            dueStatus(b, 0, 0, 0);
        }
        rulerIsTheStrongest();
    }

    private static void rulerIsTheStrongest() {
        for (int late = 0; late < 2; late++) {
            FoldedBoard b = new FoldedBoard();
            b.board(2, 2);
            b.put(0, 1);
            b.man(0, 0, 1, 7);
            b.man(0, 1, late == 0 ? 8 : 3, 0);
            b.man(0, 0, late == 0 ? 3 : 8, 6);
            due("step(1, 1, 0, 1)", b.step(1, 1, 0, 1), -1);
            // 6 comes to lie on 0
            due("fold(1, 1, 0)", b.fold(1, 1, 0), 0);
            due("ruler(0, 0)", b.ruler(0, 0), 1 + late);
            b.undo();
            // 0 comes to lie on 6
            due("fold(1, 1, 1)", b.fold(1, 1, 1), 0);
            due("ruler(0, 1)", b.ruler(0, 1), 1 + late);
        }
        rulersBehindAFold();
    }

    private static void rulersBehindAFold() {
        FoldedBoard b = new FoldedBoard();
        b.board(2, 2);
        b.put(0, 1);
        b.man(0, 0, 1, 0);
        b.man(0, 1, 8, 1);
        b.step(0, 0, 2, 1);
        b.fold(1, 1, 0);
        due("ruler(0, 0)", b.ruler(0, 0), 0);
        due("ruler(1, 0)", b.ruler(1, 0), 1);
    }

    private static void where() {
        promise(10);
        FoldedBoard b = new FoldedBoard();
        b.man(0, 0, 9, 21);
        b.man(0, 1, 8, 20);
        due("where(0)", b.where(0), 21);
        b.step(3, 3, 3, 1);
        due("where(0)", b.where(0), 20);
        due("where(1)", b.where(1), -1);
        dueStatus(b, 0, 0, 0);
        for (int m : new int[] {-1, 2, 8, LOW, HIGH}) {
            due("where(" + m + ")", b.where(m), -2);
        }
        dueStatus(b, 5, 0, 0);
    }

    private static void step() {
        promise(11);
        FoldedBoard b = new FoldedBoard();
        b.board(3, 3);
        b.hole(12);
        b.man(0, 0, 5, 7);
        b.man(0, 1, 5, 8);
        b.man(0, 0, 1, 1);
        b.man(0, 1, 4, 6);
        int[][] bad = {{1, 1, -1, 1}, {1, 1, 4, 1}, {1, 1, 0, 0}, {1, 1, 0, 3}, {LOW, 0, 9, 1}, {0, 0, 0, HIGH}, {0, 0, LOW, 1}};
        for (int[] s : bad) {
            due("step(" + s[0] + ", " + s[1] + ", " + s[2] + ", " + s[3] + ")", b.step(s[0], s[1], s[2], s[3]), -10);
        }
        dueStatus(b, bad.length, 0, 0);
        due("not on turn", b.step(2, 1, 0, 1), -20);
        due("nobody there", b.step(0, 0, 1, 1), -20);
        due("far off", b.step(HIGH, LOW, 1, 2), -20);
        due("as strong", b.step(1, 1, 1, 1), -20);
        due("his own", b.step(1, 1, 0, 1), -20);
        due("no RUNNER", b.step(1, 1, 2, 2), -20);
        due("off the board", b.step(1, 0, 0, 1), -20);
        dueStatus(b, bad.length, 7, 0);
        due("state(0)", b.state(0), 0);
        due("count(3)", b.count(3), 0);
        due("takes", b.step(1, 1, 3, 1), 3);
        due("where(0)", b.where(0), 6);
        due("where(3)", b.where(3), -1);
        due("state(0)", b.state(0), 1);
        due("weaker takes not", b.step(2, 1, 3, 1), -1);
        due("where(1)", b.where(1), 7);
        due("a HOLE", b.step(0, 1, 2, 1), -20);
        due("way 1", b.step(1, 0, 1, 1), -1);
        due("way 0", b.step(1, 1, 0, 1), -1);
        due("way 3", b.step(2, 0, 3, 1), -20);
        due("way 0 of the other", b.step(0, 1, 0, 1), -1);
        due("way 2", b.step(1, 0, 2, 1), -1);
        due("where(0)", b.where(0), 0);
        due("where(1)", b.where(1), 7);
        due("where(2)", b.where(2), 2);
    }

    /** STRENGTH is that of where he comes from; he comes on the top CELL, or on the CELL of whom he takes. */
    private static void stepOnPiles() {
        FoldedBoard b = new FoldedBoard();
        b.board(4, 2);
        b.put(0, 1);
        b.man(2, 1, 2, 0);
        b.man(0, 0, 4, 3);
        b.man(0, 0, 3, 6);
        b.man(0, 1, 9, 8);
        due("step(3, 0, 2, 1)", b.step(3, 0, 2, 1), -1);
        // 0, 1 go over 3, 2: the MOLE lies down on an empty CELL, and is 5 now
        due("fold(0, 2, 1)", b.fold(0, 2, 1), 0);
        duePile(b, 3, 0, 3, 0);
        duePile(b, 3, 1, 9, 6);
        due("strength(0)", b.strength(0), 5);
        due("ruler(3, 1)", b.ruler(3, 1), 1);
        due("MOLE takes the RULER, 4", b.step(3, 0, 2, 1), 1);
        due("where(0)", b.where(0), 9);
        due("where(2)", b.where(2), 6);
        // behind 2 MOVES it's flat, and he lies up
        due("state(3)", b.state(3), 0);
        due("strength(0)", b.strength(0), 2);
        due("step(0, 1, 0, 1)", b.step(0, 1, 0, 1), -1);
        due("fold(0, 2, 1)", b.fold(0, 2, 1), 0);
        due("state(1)", b.state(1), 1);
        // to where nobody is: the top CELL
        due("step(2, 1, 0, 1)", b.step(2, 1, 0, 1), -1);
        due("where(3)", b.where(3), 1);
    }

    private static void runner() {
        FoldedBoard b = new FoldedBoard();
        b.board(5, 3);
        b.hole(8);
        b.put(0, 9);
        b.man(4, 0, 5, 0);
        b.man(0, 1, 4, 2);
        b.man(0, 1, 6, 12);
        b.man(4, 0, 9, 9);
        due("over nobody, takes", b.step(0, 0, 1, 2), 1);
        due("step(0, 2, 0, 1)", b.step(0, 2, 0, 1), -1);
        due("over a HOLE", b.step(2, 0, 2, 2), -20);
        due("over a HOLE", b.step(3, 1, 3, 2), -20);
        due("off the board", b.step(2, 0, 0, 2), -20);
        due("off the board", b.step(3, 1, 1, 2), -20);
        due("step(3, 1, 0, 1)", b.step(3, 1, 0, 1), -1);
        due("step(0, 1, 1, 1)", b.step(0, 1, 1, 1), -1);
        due("over a MAN", b.step(2, 0, 1, 2), -20);
        due("2 far to nobody", b.step(2, 0, 3, 2), -1);
        due("where(0)", b.where(0), 0);
        due("step(1, 1, 0, 1)", b.step(1, 1, 0, 1), -1);
        due("over the other one's MAN", b.step(0, 0, 1, 2), -20);
        due("2 far, takes", b.step(3, 0, 3, 2), 2);
        due("where(3)", b.where(3), 1);
        due("state(5)", b.state(5), 0);
        // up and down, over a CELL; at the edge the other side does not help
        b.board(2, 4);
        b.hole(6);
        b.man(4, 0, 5, 12);
        b.man(4, 1, 5, 1);
        due("over a HOLE", b.step(0, 2, 0, 2), -20);
        due("off the board", b.step(0, 2, 2, 2), -20);
        due("step(0, 2, 2, 1)", b.step(0, 2, 2, 1), -1);
        due("2 far down", b.step(1, 0, 2, 2), -1);
        due("where(1)", b.where(1), 13);
        due("step(0, 3, 0, 1)", b.step(0, 3, 0, 1), -1);
        due("2 far up", b.step(1, 2, 0, 2), -1);
        due("where(1)", b.where(1), 1);
        // one FOLD is DUE: no STEP of who is on turn
        b.board(3, 2);
        b.put(0, 1);
        b.man(0, 0, 5, 0);
        b.man(0, 1, 5, 8);
        b.step(0, 0, 2, 1);
        due("state(2)", b.state(2), 1);
        due("step(2, 1, 0, 1)", b.step(2, 1, 0, 1), -20);
        due("fold(1, 1, 0)", b.fold(1, 1, 0), 0);
        due("step(2, 0, 3, 1)", b.step(2, 0, 3, 1), -1);
    }

    private static void fold() {
        promise(12);
        FoldedBoard b = new FoldedBoard();
        b.board(4, 2);
        b.put(0, 1);
        b.put(1, 2);
        b.man(0, 0, 5, 0);
        due("none is DUE", b.fold(0, 1, 0), -3);
        int[][] bad = {{-1, 1, 0}, {2, 1, 0}, {0, 1, -1}, {0, 1, 2}, {HIGH, 1, 0}, {0, 1, LOW}};
        for (int[] f : bad) {
            due("fold(" + f[0] + ", " + f[1] + ", " + f[2] + ")", b.fold(f[0], f[1], f[2]), -2);
        }
        dueStatus(b, bad.length, 1, 0);
        b.step(0, 0, 2, 1);
        due("state(2)", b.state(2), 2);
        int[][] no = {{0, 0, 0}, {0, 0, 1}, {0, 4, 0}, {0, 4, 1}, {1, 0, 0}, {1, 2, 1}, {0, LOW, 0}, {0, HIGH, 1}, {1, LOW, 1}};
        for (int[] f : no) {
            due("fold(" + f[0] + ", " + f[1] + ", " + f[2] + ")", b.fold(f[0], f[1], f[2]), -3);
        }
        due("fold(2, HIGH, 0)", b.fold(2, HIGH, 0), -2);
        dueStatus(b, bad.length + 1, 1 + no.length, 0);
        due("state(2)", b.state(2), 2);
        due("fold(0, 3, 1)", b.fold(0, 3, 1), 1);
        dueCell(b, 0, 5, 0, 1, 1);
        dueCell(b, 3, 3, 0, 0, 0);
        due("no STEP while DUE", b.step(5, 1, 0, 1), -20);
        due("fold(0, 3, 1)", b.fold(0, 3, 1), -3);
        due("fold(0, 5, 0)", b.fold(0, 5, 0), 0);
        dueCell(b, 0, 4, 0, 2, 0);
        due("fold(0, 4, 0)", b.fold(0, 4, 0), -3);
        due("state(3)", b.state(3), 2);
        // no FOLD may be: none is DUE
        b.board(2, 2);
        b.put(1, 3);
        b.man(0, 0, 1, 0);
        b.step(0, 0, 1, 1);
        due("fold(0, 1, 0)", b.fold(0, 1, 0), 2);
        due("fold(1, 1, 0)", b.fold(1, 1, 0), 0);
        due("state(2)", b.state(2), 0);
        due("fold(1, 1, 0)", b.fold(1, 1, 0), -3);
    }

    private static void foldsAndUnfolds() {
        FoldedBoard b = new FoldedBoard();
        b.put(0, 2);
        b.put(1, 2);
        b.man(0, 0, 5, 0);
        b.man(0, 1, 5, 35);
        due("1", b.step(0, 0, 1, 1), -1);
        due("state(2)", b.state(2), 0);
        due("2", b.step(5, 5, 3, 1), -1);
        due("state(2)", b.state(2), 2);
        due("fold(0, 5, 0)", b.fold(0, 5, 0), 1);
        due("fold(1, 5, 0)", b.fold(1, 5, 0), 0);
        due("3", b.step(1, 0, 1, 1), -1);
        due("state(3)", b.state(3), 2);
        due("4", b.step(4, 4, 3, 1), -1);
        due("state(3), all undone", b.state(3), 0);
        due("state(2)", b.state(2), 0);
        dueCell(b, 35, 5, 5, 0, 0);
        // he had come on the top CELL at 3, 4, that is 33
        due("where(1)", b.where(1), 33);
        due("5", b.step(2, 0, 1, 1), -1);
        due("6", b.step(3, 5, 3, 1), -1);
        due("state(2)", b.state(2), 2);
        due("fold(0, 5, 0)", b.fold(0, 5, 0), 1);
        due("fold(1, 5, 0)", b.fold(1, 5, 0), 0);
        // 9 by 9 is odd: only one makes 3 with those there are
        b.put(0, 9);
        due("7", b.step(3, 0, 1, 1), -1);
        due("8", b.step(2, 4, 3, 1), -1);
        due("9", b.step(4, 0, 3, 1), -1);
        due("state(2)", b.state(2), 1);
        due("fold(0, 4, 0)", b.fold(0, 4, 0), 0);
        due("state(3)", b.state(3), 3);
        // 10 by 2 is odd: 3 there are, so none is DUE
        b.put(0, 2);
        due("10", b.step(1, 4, 3, 1), -1);
        due("state(2)", b.state(2), 0);
        due("state(3)", b.state(3), 3);
        due("11", b.step(3, 0, 3, 1), -1);
        due("12", b.step(0, 4, 0, 1), -1);
        due("state(3)", b.state(3), 0);
    }

    private static void state() {
        promise(13);
        FoldedBoard b = new FoldedBoard();
        for (int what : new int[] {-1, 6, LOW, HIGH}) {
            due("state(" + what + ")", b.state(what), -10);
        }
        dueStatus(b, 4, 0, 0);
        b.board(4, 2);
        b.put(0, 3);
        b.man(0, 0, 5, 0);
        due("who has less is BEHIND", b.state(4), 1);
        b.man(2, 1, 5, 9);
        due("alike: on turn", b.state(4), 0);
        b.step(0, 0, 1, 1);
        due("alike: on turn", b.state(4), 1);
        due("state(1)", b.state(1), 1);
        b.step(3, 1, 3, 1);
        b.step(1, 0, 3, 1);
        due("state(0)", b.state(0), 3);
        due("state(1)", b.state(1), 1);
        due("state(2)", b.state(2), 1);
        due("state(3)", b.state(3), 0);
        b.fold(0, 2, 0);
        due("state(2)", b.state(2), 0);
        due("state(3)", b.state(3), 1);
        due("the MOLE lies down", b.state(4), 0);
        due("state(5)", b.state(5), -1);
    }

    private static void won() {
        FoldedBoard b = new FoldedBoard();
        b.man(0, 1, 9, 0);
        due("nobody was TAKEN", b.state(5), -1);
        b.man(0, 0, 1, 12);
        b.man(0, 0, 1, 35);
        b.step(0, 2, 0, 1);
        due("step(0, 0, 2, 1)", b.step(0, 0, 2, 1), 1);
        due("the other one has one", b.state(5), -1);
        due("BEHIND without the TAKEN", b.state(4), 0);
        b.step(5, 5, 0, 1);
        b.undo();
        b.undo();
        b.undo();
        b.board(6, 6);
        b.man(0, 1, 9, 0);
        b.man(0, 0, 1, 12);
        b.step(0, 2, 0, 1);
        b.step(0, 0, 2, 1);
        due("state(5)", b.state(5), 1);
        b.man(4, 0, 1, 35);
        due("he has one again", b.state(5), -1);
        due("step(5, 5, 3, 2)", b.step(5, 5, 3, 2), -1);
        b.undo();
        b.board(2, 2);
        due("state(5)", b.state(5), -1);
    }

    private static void undo() {
        promise(14);
        FoldedBoard b = new FoldedBoard();
        due("undo()", b.undo(), -3);
        dueStatus(b, 0, 1, 0);
        b.man(0, 0, 5, 0);
        b.man(0, 1, 5, 35);
        b.put(0, 5);
        int[] cells = new int[13];
        for (int i = 0; i < 13; i++) {
            int m = b.state(1);
            cells[i] = b.where(m);
            if (b.state(2) > 0) {
                due("fold(0, 3, 0)", b.fold(0, 3, 0), 0);
                continue;
            }
            int x = b.cell(cells[i], 0);
            int y = b.cell(cells[i], 1);
            int there = b.step(x, y, 1, 1);
            due("step " + i, there == -20 ? b.step(x, y, 3, 1) : there, -1);
        }
        due("state(0)", b.state(0), 12);
        due("state(3), undone at 10", b.state(3), 0);
        due("count(3)", b.count(3), 8);
        int no = b.status(1);
        for (int i = 0; i < 8; i++) {
            due("count(3)", b.count(3), 8 - i);
            due("undo()", b.undo(), 1);
            due("where(who is on turn)", b.where(b.state(1)), cells[12 - i]);
        }
        due("undo()", b.undo(), -3);
        due("status(1)", b.status(1), no + 1);
        due("state(0)", b.state(0), 5);
        due("state(2)", b.state(2), 1);
        due("state(3)", b.state(3), 0);
        undoFoldAndTaking();
        undoUnfolding();
    }

    /** Back to where three FOLDS were, from where they were undone. */
    private static void undoUnfolding() {
        FoldedBoard b = new FoldedBoard();
        b.put(0, 1);
        b.put(1, 3);
        b.man(0, 0, 5, 8);
        b.man(0, 1, 5, 35);
        due("step(2, 1, 0, 1)", b.step(2, 1, 0, 1), -1);
        due("fold(1, 4, 0)", b.fold(1, 4, 0), 2);
        due("fold(0, 2, 1)", b.fold(0, 2, 1), 1);
        due("fold(1, 2, 0)", b.fold(1, 2, 0), 0);
        int[] seen = new int[4 * 36];
        for (int i = 0; i < seen.length; i++) {
            seen[i] = b.cell(i / 4, i % 4);
        }
        due("step(5, 1, 0, 1)", b.step(5, 1, 0, 1), -1);
        due("state(3)", b.state(3), 0);
        due("undo()", b.undo(), 1);
        due("state(3)", b.state(3), 3);
        for (int i = 0; i < seen.length; i++) {
            due("cell(" + i / 4 + ", " + i % 4 + ")", b.cell(i / 4, i % 4), seen[i]);
        }
        due("undo()", b.undo(), 1);
        dueCell(b, 0, 3, 0, 3, 1);
        dueCell(b, 35, 5, 2, 1, 1);
        due("undo()", b.undo(), 1);
        dueCell(b, 0, 0, 0, 0, 0);
        dueCell(b, 35, 5, 2, 1, 1);
        dueCell(b, 24, 0, 3, 1, 1);
    }

    private static void undoFoldAndTaking() {
        FoldedBoard b = foldedInThree();
        due("undo()", b.undo(), 1);
        due("state(2)", b.state(2), 1);
        due("state(3)", b.state(3), 2);
        dueCell(b, 7, 1, 1, 0, 0);
        dueCell(b, 1, 1, 1, 3, 1);
        due("undo()", b.undo(), 1);
        due("undo()", b.undo(), 1);
        due("undo()", b.undo(), 1);
        due("undo()", b.undo(), -3);
        due("where(0)", b.where(0), 0);
        due("state(0)", b.state(0), 0);
        due("state(2)", b.state(2), 0);
        b.man(0, 1, 1, 1);
        long before = b.digest();
        due("takes", b.step(0, 0, 1, 1), 1);
        due("undo()", b.undo(), 1);
        due("where(1)", b.where(1), 1);
        due("where(0)", b.where(0), 0);
        due("digest()", b.digest(), before);
        // a STEP by which it was unfolded
        due("step(0, 0, 2, 1)", b.step(0, 0, 2, 1), -1);
        due("fold(0, 2, 0)", b.fold(0, 2, 0), 2);
        due("fold(0, 1, 1)", b.fold(0, 1, 1), 1);
        due("fold(1, 1, 1)", b.fold(1, 1, 1), 0);
        due("undo()", b.undo(), 1);
        b.undo();
        b.put(1, 1);
        b.undo();
        due("state(2)", b.state(2), 2);
        due("fold(1, 1, 1)", b.fold(1, 1, 1), 1);
        due("fold(0, 1, 1)", b.fold(0, 1, 1), 0);
        due("state(3)", b.state(3), 3);
    }

    private static void folds() {
        promise(15);
        FoldedBoard b = new FoldedBoard();
        b.board(3, 2);
        int[] flat = {210, 211, 220, 221, 1210, 1211};
        due("folds(-1)", b.folds(-1), 6);
        for (int i = 0; i < 6; i++) {
            due("folds(" + i + ")", b.folds(i), flat[i]);
        }
        due("folds(6)", b.folds(6), -5);
        due("folds(HIGH)", b.folds(HIGH), -5);
        dueStatus(b, 0, 0, 0);
        due("folds(-2)", b.folds(-2), -10);
        due("folds(LOW)", b.folds(LOW), -10);
        dueStatus(b, 2, 0, 0);
        // HOLES never count: the last column is missing
        b.hole(2);
        due("folds(-1)", b.folds(-1), 6);
        b.hole(8);
        due("folds(-1)", b.folds(-1), 4);
        due("folds(2)", b.folds(2), 1210);
        // a missing column between others leaves its lines
        b.board(3, 2);
        b.hole(1);
        b.hole(7);
        due("folds(-1)", b.folds(-1), 6);
        b.board(2, 4);
        int[] tall = {210, 211, 1210, 1211, 1220, 1221, 1230, 1231};
        due("folds(-1)", b.folds(-1), 8);
        for (int i = 0; i < 8; i++) {
            due("folds(" + i + ")", b.folds(i), tall[i]);
        }
        // lines below 0
        b.board(6, 2);
        b.put(0, 1);
        b.put(1, 3);
        b.man(0, 0, 5, 0);
        b.step(0, 0, 2, 1);
        b.fold(0, 1, 0);
        due("folds(-1)", b.folds(-1), 10);
        due("folds(0)", b.folds(0), 170);
        due("folds(7)", b.folds(7), 201);
        due("folds(8)", b.folds(8), 1210);
        due("fold(0, -3, 0)", b.fold(0, -3, 0), 1);
        due("folds(0)", b.folds(0), 140);
        due("fold(0, -6, 0)", b.fold(0, -6, 0), 0);
        // with three there are, those that may be are still told
        due("state(3)", b.state(3), 3);
        due("folds(-1)", b.folds(-1), 6);
        due("folds(0)", b.folds(0), 120);
    }

    /** 2 by 2: the strong one at 0, the other one's MOLE at 1. */
    private static FoldedBoard moleBesideMan() {
        FoldedBoard b = new FoldedBoard();
        b.board(2, 2);
        b.man(0, 0, 5, 0);
        b.man(2, 1, 4, 1);
        return b;
    }

    private static void leaves() {
        promise(16);
        FoldedBoard b = moleBesideMan();
        int[][] want = {{0, 1}, {1, 0}, {1, 1}, {1, 1}};
        for (int i = 0; i < 4; i++) {
            due("leaves(" + i + ", 0)", b.leaves(i, 0), want[i][0]);
            due("leaves(" + i + ", 1)", b.leaves(i, 1), want[i][1]);
        }
        due("state(3)", b.state(3), 0);
        // a pile of two alike: if it moves, the lower one comes to lie above
        FoldedBoard c = new FoldedBoard();
        c.board(2, 2);
        c.put(0, 1);
        c.man(0, 0, 3, 1);
        c.man(0, 1, 3, 6);
        due("step(1, 0, 3, 1)", c.step(1, 0, 3, 1), -1);
        due("fold(1, 1, 0)", c.fold(1, 1, 0), 0);
        due("ruler(0, 0)", c.ruler(0, 0), 1);
        due("folds(1)", c.folds(1), 211);
        due("leaves(0, 0)", c.leaves(0, 0), 0);
        due("leaves(0, 1)", c.leaves(0, 1), 1);
        due("leaves(1, 0)", c.leaves(1, 0), 1);
        due("leaves(1, 1)", c.leaves(1, 1), 0);
        int[][] bad = {{-1, 0}, {4, 0}, {0, -1}, {0, 2}, {HIGH, 0}, {LOW, 1}, {0, HIGH}};
        for (int[] l : bad) {
            due("leaves(" + l[0] + ", " + l[1] + ")", b.leaves(l[0], l[1]), -2);
        }
        dueStatus(b, bad.length, 0, 0);
    }

    private static void habit() {
        promise(17);
        FoldedBoard b = moleBesideMan();
        due("the MOLE's side is BEHIND", b.habit(), 0);
        due("state(3)", b.state(3), 0);
        b.board(2, 2);
        b.man(0, 0, 5, 0);
        b.man(0, 1, 4, 1);
        due("by y they lie apart", b.habit(), 2);
        b.board(2, 2);
        b.man(2, 0, 4, 0);
        b.man(0, 1, 5, 1);
        due("0 is BEHIND", b.habit(), 1);
        b.board(2, 2);
        due("nobody: the first", b.habit(), 0);
        b.man(0, 0, 3, 0);
        b.man(0, 1, 3, 1);
        due("alike: 0 is on turn, his goes over", b.habit(), 1);
        due("step(0, 0, 2, 1)", b.step(0, 0, 2, 1), -1);
        due("step(1, 0, 2, 1)", b.step(1, 0, 2, 1), -1);
        due("step(0, 1, 0, 1)", b.step(0, 1, 0, 1), -1);
        // 1 is on turn, on 7, the other one on 0: no FOLD brings them together
        due("habit()", b.habit(), 0);
        due("step(1, 1, 0, 1)", b.step(1, 1, 0, 1), -1);
        due("habit()", b.habit(), 1);
        // of the other one's two, fewer are RULERS behind the third
        b.board(3, 2);
        b.man(0, 0, 5, 1);
        b.man(0, 0, 5, 2);
        b.man(0, 1, 1, 6);
        due("habit()", b.habit(), 2);
        FoldedBoard c = foldedInThree();
        due("none may be", c.habit(), -1);
        dueStatus(c, 0, 0, 0);
    }

    private static void safe() {
        promise(18);
        FoldedBoard b = moleBesideMan();
        due("neither", b.safe(), 0);
        b.board(2, 2);
        b.man(0, 0, 5, 0);
        b.man(0, 1, 4, 1);
        due("the strong one", b.safe(), 1);
        b.man(0, 1, 5, 6);
        // 0 and 2: alike, so who lies above rules
        due("nobody", b.safe(), 0);
        b.board(2, 2);
        b.man(0, 0, 5, 0);
        b.man(0, 0, 1, 1);
        b.man(0, 1, 4, 7);
        due("under his own he is safe, beside the other he is not", b.safe(), 1 | 4);
        due("state(3)", b.state(3), 0);
        b.board(2, 2);
        b.man(2, 0, 4, 1);
        b.man(0, 1, 5, 0);
        due("neither, by one way each", b.safe(), 0);
        // the TAKEN are not safe
        b.board(2, 2);
        b.put(0, 1);
        b.put(1, 2);
        b.man(0, 0, 9, 0);
        b.man(0, 1, 1, 1);
        b.man(0, 1, 2, 6);
        due("step(0, 0, 1, 1)", b.step(0, 0, 1, 1), 1);
        due("safe()", b.safe(), 1 | 4);
        b.fold(0, 1, 0);
        due("safe()", b.safe(), 1);
        b.fold(1, 1, 0);
        due("safe(), by no FOLD", b.safe(), 1);
        // behind each FOLD his own would rule, but now the other one does, who lies above
        b.board(2, 2);
        b.put(1, 1);
        b.man(0, 0, 5, 7);
        b.man(0, 1, 5, 0);
        b.man(0, 1, 9, 1);
        due("step(1, 1, 3, 1)", b.step(1, 1, 3, 1), -1);
        due("fold(1, 1, 0)", b.fold(1, 1, 0), 0);
        due("ruler(0, 0)", b.ruler(0, 0), 0);
        due("safe()", b.safe(), 4);
        b.board(2, 2);
        b.man(0, 0, 5, 1);
        b.man(0, 1, 5, 6);
        b.man(0, 1, 9, 0);
        due("step(1, 0, 2, 1)", b.step(1, 0, 2, 1), -1);
        due("fold(0, 1, 0)", b.fold(0, 1, 0), 0);
        due("ruler(0, 1)", b.ruler(0, 1), 0);
        due("safe()", b.safe(), 4);
    }

    private static void small() {
        promise(19);
        FoldedBoard b = new FoldedBoard();
        int[][] want = {{36, 0}, {35, 1}, {18, 1}, {17, 2}, {9, 2}, {8, 3}, {6, 3}, {5, -1}, {1, -1}};
        for (int[] w : want) {
            due("small(" + w[0] + ")", b.small(w[0]), w[1]);
        }
        for (int k : new int[] {0, 37, -1, LOW, HIGH}) {
            due("small(" + k + ")", b.small(k), -2);
        }
        dueStatus(b, 5, 0, 0);
        b.board(5, 2);
        // 5 columns: 3, then 2, then 1; 2 rows: 1
        int[][] five = {{10, 0}, {9, 1}, {6, 1}, {5, 1}, {4, 2}, {3, 2}, {2, 3}, {1, -1}};
        for (int[] w : five) {
            due("small(" + w[0] + ") of 5 by 2", b.small(w[0]), w[1]);
        }
        // a HOLE counts at once, and the flat board is asked for
        b.hole(4);
        b.hole(10);
        due("small(1) of 4 by 2", b.small(1), 3);
        due("small(2) of 4 by 2", b.small(2), 2);
        b.board(2, 2);
        b.hole(0);
        due("small(3)", b.small(3), 0);
        due("small(2)", b.small(2), 1);
        FoldedBoard c = foldedInThree();
        due("small(8)", c.small(8), 0);
        due("small(7)", c.small(7), 1);
        due("small(1)", c.small(1), 3);
        due("image(0)", c.image(0), 1);
        c.board(2, 2);
        due("small(4)", c.small(4), 0);
        due("small(1)", c.small(1), 2);
        due("from(0)", c.from(0), 1);
        due("small(4)", c.small(4), 1);
        due("small(1)", c.small(1), 3);
    }

    private static void reach() {
        promise(20);
        FoldedBoard b = lineOfFour();
        int[] want = {1, 2, 3, 3, 3, 3, 3, 3, 3, 3};
        for (int n = 0; n < 10; n++) {
            due("reach(0, 0, " + n + ")", b.reach(0, 0, n), want[n]);
        }
        due("whoever is on turn", b.reach(3, 0, 1), 2);
        due("state(0)", b.state(0), 0);
        int[][] bad = {{0, 0, -1}, {0, 0, 10}, {1, 0, 1}, {0, 1, 1}, {HIGH, 0, 1}, {0, LOW, 1}, {0, 0, HIGH}};
        for (int[] r : bad) {
            due("reach(" + r[0] + ", " + r[1] + ", " + r[2] + ")", b.reach(r[0], r[1], r[2]), -2);
        }
        dueStatus(b, bad.length, 0, 0);
        FoldedBoard c = new FoldedBoard();
        c.man(4, 0, 1, 14);
        int[] open = {1, 5, 13, 23, 31, 35, 36, 36};
        for (int n = 0; n < 8; n++) {
            due("reach(2, 2, " + n + "), a RUNNER", c.reach(2, 2, n), open[n]);
        }
        // POSITIONS count, not CELLS; a weak MAN of the other one is in the way, too
        FoldedBoard d = foldedInThree();
        d.undo();
        due("reach(0, 1, 9)", d.reach(0, 1, 9), 2);
        d.man(0, 1, 1, 2);
        due("reach(0, 1, 9)", d.reach(0, 1, 9), 1);
    }

    private static void wins() {
        promise(21);
        FoldedBoard b = lineOfFour();
        int[] want = {0, 0, 0, 1};
        for (int n = 0; n < 4; n++) {
            due("wins(" + n + ")", b.wins(n), want[n]);
        }
        for (int n : new int[] {-1, 4, LOW, HIGH}) {
            due("wins(" + n + ")", b.wins(n), -2);
        }
        dueStatus(b, 4, 0, 0);
        due("state(0)", b.state(0), 0);
        // by EVERY 1 there's a FOLD between: the weak one still must come near
        b.put(0, 1);
        due("wins(3)", b.wins(3), 1);
        due("state(3)", b.state(3), 0);
        b.put(0, 7);
        // the weak one can not move: nobody has WON by that
        b.board(3, 2);
        for (int c = 6; c < 9; c++) {
            b.hole(c);
        }
        b.man(0, 0, 9, 0);
        b.man(0, 1, 1, 2);
        due("no STEP may be", b.wins(3), 0);
        due("best(3)", b.best(3), -1);
        // two are TAKEN by three STEPS, whatever the other one does
        FoldedBoard c = lineOfFour();
        c.board(3, 2);
        c.man(0, 0, 9, 1);
        c.man(0, 1, 1, 0);
        c.man(0, 1, 1, 6);
        due("wins(2)", c.wins(2), 0);
        due("wins(3)", c.wins(3), 0);
        c.man(0, 0, 9, 8);
        c.hole(2);
        due("wins(3)", c.wins(3), 1);
        winsWhenFoldsAreDue();
        winsBehindSomeFolds();
    }

    /** As many as are DUE are made by HABIT, then who is on turn takes. */
    private static void winsBehindSomeFolds() {
        for (int times = 1; times <= 3; times++) {
            FoldedBoard b = new FoldedBoard();
            b.board(6, 2);
            b.put(0, 1);
            b.put(1, times);
            b.man(0, 0, 1, 4);
            b.man(0, 1, 9, 11);
            due("step(4, 0, 1, 1)", b.step(4, 0, 1, 1), -1);
            due("state(2)", b.state(2), times);
            due("wins(1)", b.wins(1), 1);
            due("best(1)", b.best(1), -1);
            for (int i = 0; i < times; i++) {
                // they lie apart by each FOLD by x: the first of these
                due("habit()", b.habit(), 0);
                int f = b.folds(0);
                due("fold", b.fold(f / 1000, f % 1000 / 10 - 20, f % 10), times - 1 - i);
            }
            due("state(3)", b.state(3), times);
            due("wins(1)", b.wins(1), 1);
        }
    }

    /** DUE now: HABIT lays the weak one beside the strong one's way, or over him. */
    private static void winsWhenFoldsAreDue() {
        FoldedBoard b = new FoldedBoard();
        b.board(2, 2);
        b.put(0, 1);
        b.man(0, 0, 2, 0);
        b.man(0, 1, 3, 7);
        due("step(0, 0, 1, 1)", b.step(0, 0, 1, 1), -1);
        due("state(2)", b.state(2), 1);
        // 0 is BEHIND: by x they lie apart, the first of these is 0 1 0; then 1 steps on and takes
        due("habit()", b.habit(), 0);
        due("wins(0)", b.wins(0), 0);
        due("wins(1)", b.wins(1), 1);
        due("best(1)", b.best(1), -1);
        due("state(2)", b.state(2), 1);
        due("state(3)", b.state(3), 0);
        due("fold(0, 1, 0)", b.fold(0, 1, 0), 0);
        due("best(1)", b.best(1), 212001);
        due("step(0, 1, 0, 1)", b.step(0, 1, 0, 1), 0);
        due("state(5)", b.state(5), 1);
        due("wins(3), he has none", b.wins(3), 0);
    }

    private static void best() {
        promise(22);
        FoldedBoard b = lineOfFour();
        due("best(3)", b.best(3), 202011);
        due("best(2)", b.best(2), -1);
        due("best(0)", b.best(0), -1);
        dueStatus(b, 0, 0, 0);
        for (int n : new int[] {-1, 4, LOW, HIGH}) {
            due("best(" + n + ")", b.best(n), -2);
        }
        dueStatus(b, 4, 0, 0);
        // four may take him: by y, then x, then WAY, and the number of the MAN makes no difference
        b.board(3, 3);
        b.man(0, 1, 1, 7);
        b.man(0, 0, 9, 13);
        b.man(0, 0, 9, 8);
        b.man(0, 0, 9, 6);
        due("best(1)", b.best(1), 212011);
        b.man(0, 0, 9, 1);
        due("best(1)", b.best(1), 202121);
        // by the first he only makes room: the weak one must come there
        due("best(3)", b.best(3), 202111);
        // by x in a row, whoever came first
        for (int first = 0; first < 2; first++) {
            b.board(3, 3);
            b.man(0, 0, 9, first == 0 ? 6 : 8);
            b.man(0, 0, 9, first == 0 ? 8 : 6);
            b.man(0, 1, 1, 7);
            due("best(1)", b.best(1), 212011);
            b.board(3, 3);
            b.man(0, 0, 9, first == 0 ? 1 : 13);
            b.man(0, 0, 9, first == 0 ? 13 : 1);
            b.man(0, 1, 1, 7);
            due("best(1)", b.best(1), 202121);
            // here y is less where x is more
            b.board(3, 3);
            b.man(0, 0, 9, first == 0 ? 1 : 6);
            b.man(0, 0, 9, first == 0 ? 6 : 1);
            b.man(0, 1, 1, 7);
            due("best(1)", b.best(1), 202121);
        }
        for (int y = 0; y < 3; y++) {
            b.board(3, 3);
            b.man(0, 0, 9, 6 * y + 2);
            b.man(0, 0, 9, 6 * y);
            b.man(0, 1, 1, 6 * y + 1);
            due("best(1)", b.best(1), 10000 * (20 + y) + 2011);
        }
        // only the one who comes last by y, x
        b.board(3, 4);
        b.man(0, 0, 9, 13);
        b.man(0, 0, 9, 8);
        b.man(0, 0, 9, 6);
        b.man(0, 1, 1, 19);
        due("best(1)", b.best(1), 222121);
        // a RUNNER: 1 far ahead of 2 far
        b.board(3, 2);
        b.man(4, 0, 9, 0);
        b.man(0, 1, 1, 2);
        due("best(1)", b.best(1), 202012);
        due("wins(1)", b.wins(1), 1);
        // at a POSITION below 0
        b.board(4, 2);
        b.put(0, 1);
        b.man(0, 1, 5, 2);
        b.man(0, 0, 1, 9);
        due("step(3, 1, 0, 1)", b.step(3, 1, 0, 1), -1);
        due("best(1), DUE", b.best(1), -1);
        due("fold(0, 1, 0)", b.fold(0, 1, 0), 0);
        due("best(1)", b.best(1), 201931);
        due("step(-1, 0, 3, 1)", b.step(-1, 0, 3, 1), 1);
        due("where(0)", b.where(0), 3);
    }

    private static void type() {
        promise(23);
        FoldedBoard b = new FoldedBoard();
        for (int n : new int[] {0, -1, 9, LOW, HIGH}) {
            due("type(0, " + n + ")", b.type(0, n), -2);
        }
        dueStatus(b, 5, 0, 0);
        due("type(.., 3)", b.type(0x4142434445464748L, 3), 3);
        due("type(-2, 1)", b.type(-2, 1), 4);
        b.board(2, 2);
        due("digest()", b.digest(), hash(4, 0, 4, 0, 2, 2, 0, 1, 6, 7, 7, 1, 0, 0, 0x46, 0x47, 0x48, 254));
        b.clear();
        for (int i = 1; i <= 24; i++) {
            due("type(.., 8)", b.type(0x4142434445464748L, 8), 8 * i);
        }
        due("type(.., 7)", b.type(0, 7), 199);
        due("type(.., 2)", b.type(0, 2), -4);
        due("type(.., 9)", b.type(0, 9), -2);
        due("count(2)", b.count(2), 199);
        due("type(.., 1)", b.type(0, 1), 200);
        due("type(.., 1)", b.type(0, 1), -4);
        due("type(.., 8)", b.type(0, 8), -4);
        dueStatus(b, 6, 0, 3);
    }

    private static void clear() {
        promise(24);
        FoldedBoard b = new FoldedBoard();
        due("clear()", b.clear(), 0);
        typeText(b, "step 0 0 ");
        due("clear()", b.clear(), 9);
        due("clear()", b.clear(), 0);
        due("count(2)", b.count(2), 0);
        due("fault()", b.fault(), -1);
    }

    private static void dueFault(String text, int want) {
        FoldedBoard b = new FoldedBoard();
        typeText(b, text);
        due("fault() of '" + text + "'", b.fault(), want);
        boolean refused = want != -1;
        due("status(1)", b.status(1), 0);
        int judged = b.judge();
        due("judge() of '" + text + "' is NO", judged == -3 ? 1 : 0, refused ? 1 : 0);
        due("status(1)", b.status(1), refused ? 1 : 0);
    }

    private static void fault() {
        promise(25);
        dueFault("", -1);
        dueFault("   ", -1);
        dueFault("step 0 0 1 1;", -1);
        dueFault("fold 1 -12 0;", -1);
        dueFault("  step 10 -1 99 -99 ;  fold 00 01 -0 ; ", -1);
        dueFault("step0 0-1-1;fold1 2 3;", -1);
        dueFault("step 0 0 1 1", 12);
        dueFault("step 0 0 1 1  ", 14);
        dueFault("step", 4);
        dueFault("step 0 0 1 1;fold 0", 19);
        dueFault("ste", 0);
        for (String none : new String[] {"steps", "atep", "sxep", "stxp", "stex", "bold", "fald", "foxd", "folk", "a", "z", "stepfold"}) {
            dueFault(none + " 0 0 1 1;", 0);
            dueFault("step 0 0 1 1;" + none + ";", 13);
        }
        dueFault(" stepfold 0", 1);
        dueFault("Step 0 0 1 1;", 0);
        dueFault("step 0 0 1 1 1;", 13);
        dueFault("step 0 0 1;", 10);
        dueFault("fold 0 0 1 1;", 11);
        dueFault("fold 0 0;", 8);
        dueFault("step 0 0 1 1;;", 13);
        dueFault(";", 0);
        dueFault("1", 0);
        dueFault("step step", 5);
        dueFault("step 123 0 1 1;", 5);
        dueFault("step -123 0 1 1;", 5);
        dueFault("step 000 0 1 1;", 5);
        dueFault("step - 1 0 1 1;", 5);
        dueFault("step --1 0 1 1;", 5);
        dueFault("step -", 5);
        dueFault("step 1- 0 1 1;", 6);
        dueFault("step 1a 0 1 1;", 6);
        dueFault("step +1 0 1 1;", 5);
        dueFault("step 0,0 1 1;", 6);
        dueFault("step\t0 0 1 1;", 4);
        dueFault("step 0 0 1 1;\n", 13);
        dueFault("step 0 0 1 1;" + (char) 0, 13);
        dueFault("step 0 0 1 1;" + (char) 255, 13);
        dueFault("step 0 0 1 1{", 12);
        dueFault("step 0 0 1 1`", 12);
        dueFault("step 0 0 1 :1", 11);
        dueFault("step 0 0 1 /1", 11);
        dueFault("step 0 0 1 1;".repeat(15), -1);
        dueFault("step 0 0 1 1;".repeat(15) + "fold;", 199);
    }

    private static void judge() {
        promise(26);
        FoldedBoard b = new FoldedBoard();
        due("judge()", b.judge(), -1);
        b.board(3, 2);
        b.put(0, 2);
        b.put(1, 2);
        b.man(0, 0, 9, 0);
        b.man(0, 1, 8, 8);
        b.step(0, 0, 1, 1);
        long before = b.digest();
        int undos = b.count(3);
        String[] texts = {"step 2 1 3 1;", "step 2 1 3 1; fold 0 1 0;", "step 2 1 3 1; fold 0 1 0; fold 1 1 1;",
            "step 2 1 3 1; fold 0 1 0; fold 1 1 1; step 0 1 1 1;", "step 1 0 1 1;", "fold 0 1 0;",
            "step 2 1 3 1; step 1 0 1 1;", "step 2 1 3 1; fold 0 3 0;", "step 2 1 3 1; fold 2 1 0;",
            "step 2 1 3 1; fold 0 1 2;", "step 2 1 4 1;", "step 2 1 -1 1;", "step 2 1 3 0;", "step 2 1 3 3;",
            "step 2 1 3 1; fold 0 1 0; fold 1 1 1; fold 0 0 0;", "step 2 1 3 1;fold 0 1 0;fold 0 0 1;step -1 0 1 1;",
            "step 2 1 3 1; fold 0 1 0; fold 1 1 1; step 0 1 3 1;"};
        int[] want = {-1, -1, -1, 3, 0, 0, 1, 1, 1, 1, 0, 0, 0, 0, 3, 3, -1};
        for (int i = 0; i < texts.length; i++) {
            tell(b, texts[i]);
            due("judge() of " + texts[i], b.judge(), want[i]);
            b.clear();
            due("digest() as it was", b.digest(), before);
            due("count(3) as it was", b.count(3), undos);
            dueCell(b, 8, 2, 1, 0, 0);
        }
        dueStatus(b, 0, 0, 0);
        tell(b, "step 2 1 3 1; fold 0 1 0; go;");
        due("judge(), a FAULT behind", b.judge(), -3);
        dueStatus(b, 0, 1, 0);
        judgeLeavesTheFolds();
        // from how it is now: FOLDS are DUE
        b.step(2, 1, 3, 1);
        tell(b, "fold 0 1 0; fold 0 0 1;");
        due("judge()", b.judge(), -1);
        due("fold(0, 1, 0)", b.fold(0, 1, 0), 1);
        due("judge()", b.judge(), 0);
        due("state(3)", b.state(3), 1);
    }

    /** By the ITEMS it is unfolded and folded otherwise, as often: it stays as it is now. */
    private static void judgeLeavesTheFolds() {
        String[] folds = {"fold 0 3 0;", "fold 1 2 0;", "fold 0 2 1;", "fold 1 3 1;"};
        for (String other : folds) {
            FoldedBoard b = new FoldedBoard();
            b.put(0, 1);
            b.man(0, 0, 5, 0);
            b.man(0, 1, 5, 35);
            due("step(0, 0, 1, 1)", b.step(0, 0, 1, 1), -1);
            due("fold(0, 2, 0)", b.fold(0, 2, 0), 0);
            typeText(b, "step -2 5 0 1; step 1 0 2 1;" + other);
            due("judge()", b.judge(), -1);
            due("state(3)", b.state(3), 1);
            due("where(1)", b.where(1), 35);
            dueCell(b, 35, -2, 5, 1, 1);
            dueCell(b, 0, 0, 0, 0, 0);
            dueCell(b, 13, 1, 2, 0, 0);
            due("folds(0)", b.folds(0), 190);
        }
    }

    private static void image() {
        promise(27);
        FoldedBoard b = foldedInThree();
        due("image(0)", b.image(0), 1);
        due("image(1)", b.image(1), 1);
        for (int i : new int[] {-1, 2, LOW, HIGH}) {
            due("image(" + i + ")", b.image(i), -2);
        }
        dueStatus(b, 4, 0, 0);
        due("count(3)", b.count(3), 4);
        due("state(3)", b.state(3), 3);
        // what is kept is as it was, and the later one counts
        long three = b.digest();
        b.undo();
        due("image(1)", b.image(1), 1);
        long two = b.digest();
        b.board(6, 6);
        due("from(0)", b.from(0), 1);
        due("digest()", b.digest(), three);
        due("from(1)", b.from(1), 1);
        due("digest()", b.digest(), two);
    }

    private static void from() {
        promise(28);
        FoldedBoard b = foldedInThree();
        due("from(0)", b.from(0), -3);
        due("from(1)", b.from(1), -3);
        for (int i : new int[] {-1, 2, LOW, HIGH}) {
            due("from(" + i + ")", b.from(i), -2);
        }
        dueStatus(b, 4, 2, 0);
        b.image(1);
        due("from(0)", b.from(0), -3);
        long before = b.digest();
        b.board(2, 2);
        b.put(0, 4);
        b.put(1, 2);
        b.hole(0);
        b.man(3, 1, 2, 1);
        typeText(b, "fold");
        int bad = b.status(0);
        due("from(1)", b.from(1), 1);
        due("THE GAME stays", b.clear(), 4);
        due("STATUS stays", b.status(0), bad);
        due("STATUS stays", b.status(1), 3);
        due("digest()", b.digest(), before);
        duePile(b, 0, 1, 6, 9, 3, 0, 1, 2, 8, 7);
        for (int i = 0; i < 4; i++) {
            due("undo()", b.undo(), 1);
        }
        due("undo()", b.undo(), -3);
        due("where(0)", b.where(0), 0);
        due("put(0, 1)", b.put(0, 1), 1);
        due("put(1, 3)", b.put(1, 3), 3);
        due("from(1) again", b.from(1), 1);
        due("digest()", b.digest(), before);
        due("count(3)", b.count(3), 4);
        b.board(6, 6);
        b.from(1);
        due("folds(-1)", b.folds(-1), 0);
        due("habit()", b.habit(), -1);
        fromWithEightToUndo();
    }

    private static void fromWithEightToUndo() {
        FoldedBoard b = new FoldedBoard();
        b.put(0, 9);
        b.man(0, 0, 5, 0);
        b.man(0, 1, 5, 30);
        int[][] steps = {{0, 0, 1}, {0, 5, 1}, {1, 0, 1}, {1, 5, 1}, {2, 0, 1}, {2, 5, 1}, {3, 0, 1}, {3, 5, 1}};
        for (int[] s : steps) {
            due("step", b.step(s[0], s[1], s[2], 1), -1);
        }
        due("image(0)", b.image(0), 1);
        b.board(6, 6);
        b.man(0, 0, 5, 1);
        b.man(0, 1, 5, 31);
        for (int i = 0; i < 4; i++) {
            due("step(1, .., 2, 1)", b.step(1, i, 2, 1), -1);
            due("step(.., 5, 1, 1)", b.step(1 + i, 5, 1, 1), -1);
        }
        due("from(0)", b.from(0), 1);
        for (int i = 7; i >= 0; i--) {
            due("undo()", b.undo(), 1);
            due("where(0)", b.where(0), (i + 1) / 2);
            due("where(1)", b.where(1), 30 + i / 2);
        }
        due("undo()", b.undo(), -3);
    }

    private static void status() {
        promise(29);
        FoldedBoard b = new FoldedBoard();
        due("status(3)", b.status(3), -1);
        due("status(-1)", b.status(-1), -1);
        due("status(LOW)", b.status(LOW), -1);
        due("status(HIGH)", b.status(HIGH), -1);
        dueStatus(b, 4, 0, 0);
        // answers that are no refusals
        b.pile(0, 0, 5);
        b.folds(99);
        b.ruler(9, 9);
        b.fault();
        b.judge();
        b.best(0);
        b.small(1);
        b.man(0, 0, 9, 0);
        b.man(0, 1, 1, 1);
        b.step(0, 0, 1, 1);
        b.where(1);
        dueStatus(b, 4, 0, 0);
        // others are told: they count as these
        b.cell(-1, 0);
        b.pile(0, 0, -2);
        b.step(0, 0, 4, 1);
        b.state(9);
        b.folds(-2);
        dueStatus(b, 9, 0, 0);
        b.step(0, 0, 0, 1);
        b.fold(0, 1, 0);
        dueStatus(b, 9, 2, 0);
        for (int i = 0; i < 26; i++) {
            b.type(0, 8);
        }
        dueStatus(b, 9, 2, 1);
        b.judge();
        dueStatus(b, 9, 3, 1);
    }

    private static void count() {
        promise(30);
        FoldedBoard b = foldedInThree();
        b.man(0, 1, 1, 0);
        due("count(3), behind a MAN", b.count(3), 0);
        typeText(b, "go");
        due("count(0)", b.count(0), 8);
        due("count(1)", b.count(1), 2);
        due("count(2)", b.count(2), 2);
        for (int what : new int[] {-1, 4, LOW, HIGH}) {
            due("count(" + what + ")", b.count(what), -2);
        }
        dueStatus(b, 4, 0, 0);
        b.board(3, 2);
        b.hole(1);
        b.man(0, 0, 9, 7);
        b.man(0, 1, 1, 6);
        b.step(1, 1, 3, 1);
        due("count(0)", b.count(0), 5);
        due("count(1), a TAKEN one, too", b.count(1), 2);
        due("count(3)", b.count(3), 1);
    }

    private static void digest() {
        promise(31);
        FoldedBoard b = new FoldedBoard();
        b.board(3, 2);
        b.hole(1);
        b.put(0, 1);
        b.put(1, 3);
        b.man(3, 0, 9, 7);
        b.man(2, 1, 1, 6);
        b.step(1, 1, 3, 1);
        b.fold(0, 1, 0);
        b.fold(0, 0, 1);
        typeText(b, "a" + (char) 200);
        due("digest()", b.digest(), hash(5, 2, 2, 3, 3, 2, 0, 2, 6, 7, 8, 3, 0, 9, 6, 2, 1, 1, -1,
            1, 3, 1, 1, 0, 1, 0, 0, 0, 1, 'a', 200));
        due("fold(1, 1, 0)", b.fold(1, 1, 0), 0);
        due("digest()", b.digest(), hash(5, 2, 2, 4, 3, 2, 0, 2, 6, 7, 8, 3, 0, 9, 6, 2, 1, 1, -1,
            1, 3, 1, 0, 0, 1, 0, 0, 0, 1, 1, 1, 0, 'a', 200));
    }
}
