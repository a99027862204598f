import java.util.List;
import java.util.Random;

/** Plays many games on the class and on FoldedBoardModel at once: every answer must be the same. */
public final class ModelTest {
    private static final int[] ODD = {-1000, -3, -2, -1, 0, 1, 2, 3, 4, 5, 6, 7, 8, 9, 10, 36, 99, 100,
        Integer.MAX_VALUE, Integer.MIN_VALUE};

    private final FoldedBoard board = new FoldedBoard();
    private final FoldedBoardModel model = new FoldedBoardModel();
    private final StringBuilder told = new StringBuilder();
    private final Random random;
    private boolean same = true;
    private int made;

    private ModelTest(long seed) {
        random = new Random(seed);
    }

    public static void main(String[] args) {
        int runs = args.length > 0 ? Integer.parseInt(args[0]) : 1500;
        long first = args.length > 1 ? Long.parseLong(args[1]) : 1;
        int wrong = 0;
        int[] seen = new int[6];
        for (int i = 0; i < runs && wrong < 3; i++) {
            ModelTest test = new ModelTest(first + i);
            test.play();
            if (!test.same) {
                wrong++;
                System.out.println("seed " + (first + i) + test.told);
            }
            test.tally(seen);
        }
        System.out.println(runs + " games; at their ends " + seen[0] + " moves, " + seen[1] + " folds, "
            + seen[2] + " taken, " + seen[3] + " won");
        if (seen[0] == 0 || seen[1] == 0 || seen[2] == 0 || seen[3] == 0) {
            System.out.println("these games show too little");
            wrong++;
        }
        System.exit(wrong == 0 ? 0 : 1);
    }

    private void tally(int[] seen) {
        seen[0] += model.game.moves;
        seen[1] += model.game.folds.size();
        seen[2] += (int) model.game.men.stream().filter(m -> m.cell == -1).count();
        seen[3] += model.game.won() == -1 ? 0 : 1;
    }

    private void check(String call, long got, long want) {
        made++;
        told.append("\n  ").append(call).append(" = ").append(got);
        if (got != want && same) {
            same = false;
            told.append(" but the model says ").append(want);
        }
    }

    private int pick(int n) {
        return random.nextInt(n);
    }

    private int odd() {
        return ODD[pick(ODD.length)];
    }

    private void play() {
        boolean large = pick(5) == 0;
        if (!large) {
            board(2 + pick(4), 2 + pick(4));
        }
        put(0, 1 + pick(pick(2) == 0 ? 2 : 5));
        put(1, 1 + pick(3));
        int holes = pick(3) == 0 ? pick(6) : 0;
        for (int i = 0; i < holes; i++) {
            hole(pick(36));
        }
        int men = pick(4) == 0 ? 2 + pick(7) : 2 + pick(3);
        for (int i = 0; i < 40 && model.count(1) < men; i++) {
            man(pick(5), pick(2), 1 + pick(9), pick(36));
        }
        int calls = pick(10) == 0 ? 400 : 60;
        // an object has 512 calls: the longest try below makes some thirty
        for (int i = 0; i < calls && same && made < 470; i++) {
            if (pick(3) == 0) {
                move();
            } else {
                call();
            }
        }
        for (int i = 0; i < 3; i++) {
            check("status(" + i + ")", board.status(i), model.status(i));
        }
        check("digest()", board.digest(), model.digest());
    }

    private void move() {
        if (model.game.due > 0) {
            List<FoldedBoardModel.Fold> all = model.game.allFolds();
            FoldedBoardModel.Fold f = all.get(pick(all.size()));
            fold(f.axis(), f.line(), f.way());
            return;
        }
        List<FoldedBoardModel.Step> all = model.game.steps();
        if (!all.isEmpty()) {
            FoldedBoardModel.Step s = all.get(pick(all.size()));
            step(s.x(), s.y(), s.w(), s.d());
        }
    }

    private void call() {
        switch (pick(34)) {
            case 0 -> rarely(() -> board(pick(8), pick(8)));
            case 1 -> rarely(() -> hole(pick(3) == 0 ? odd() : pick(36)));
            case 2 -> rarely(() -> man(pick(6), pick(2), pick(11), pick(38)));
            case 3 -> rarely(() -> put(pick(3), pick(11)));
            case 4, 5 -> {
                int c = pick(6) == 0 ? odd() : pick(36);
                int what = pick(9) == 0 ? odd() : pick(4);
                check("cell(" + c + ", " + what + ")", board.cell(c, what), model.cell(c, what));
            }
            case 6, 7 -> {
                int x = somewhere();
                int y = somewhere();
                int i = pick(9) == 0 ? odd() : pick(9) - 1;
                check("pile(" + x + ", " + y + ", " + i + ")", board.pile(x, y, i), model.pile(x, y, i));
            }
            case 8 -> {
                int m = pick(9) == 0 ? odd() : pick(9) - 1;
                check("strength(" + m + ")", board.strength(m), model.strength(m));
            }
            case 9, 10 -> {
                int x = somewhere();
                int y = somewhere();
                check("ruler(" + x + ", " + y + ")", board.ruler(x, y), model.ruler(x, y));
            }
            case 11 -> {
                int m = pick(9) == 0 ? odd() : pick(9) - 1;
                check("where(" + m + ")", board.where(m), model.where(m));
            }
            case 12, 13 -> step(somewhere(), somewhere(), pick(9) == 0 ? odd() : pick(4), pick(9) == 0 ? odd() : 1 + pick(2));
            case 14 -> fold(pick(9) == 0 ? odd() : pick(2), somewhere(), pick(9) == 0 ? odd() : pick(2));
            case 15 -> {
                int what = pick(9) == 0 ? odd() : pick(6);
                check("state(" + what + ")", board.state(what), model.state(what));
            }
            case 16 -> check("undo()", board.undo(), model.undo());
            default -> callMore();
        }
    }

    private void callMore() {
        switch (pick(24)) {
            case 0, 1 -> {
                int i = pick(9) == 0 ? odd() : pick(22) - 1;
                check("folds(" + i + ")", board.folds(i), model.folds(i));
            }
            case 2, 3 -> {
                int i = pick(9) == 0 ? odd() : pick(20);
                int owner = pick(20) == 0 ? odd() : pick(2);
                check("leaves(" + i + ", " + owner + ")", board.leaves(i, owner), model.leaves(i, owner));
            }
            case 4 -> check("habit()", board.habit(), model.habit());
            case 5 -> check("safe()", board.safe(), model.safe());
            case 6 -> small();
            case 7, 8 -> reach();
            case 9, 10, 11 -> wins();
            case 12 -> type(random.nextLong(), pick(10));
            case 13, 14 -> typeGame();
            case 15 -> check("clear()", board.clear(), model.clear());
            case 16 -> check("fault()", board.fault(), model.fault());
            case 17, 18 -> check("judge()", board.judge(), model.judge());
            case 19 -> {
                int i = pick(9) == 0 ? odd() : pick(2);
                check("image(" + i + ")", board.image(i), model.image(i));
            }
            case 20 -> {
                int i = pick(9) == 0 ? odd() : pick(2);
                check("from(" + i + ")", board.from(i), model.from(i));
            }
            case 21 -> {
                int what = pick(9) == 0 ? odd() : pick(3);
                check("status(" + what + ")", board.status(what), model.status(what));
            }
            case 22 -> {
                int what = pick(9) == 0 ? odd() : pick(4);
                check("count(" + what + ")", board.count(what), model.count(what));
            }
            default -> check("digest()", board.digest(), model.digest());
        }
    }

    private void rarely(Runnable r) {
        if (pick(6) == 0) {
            r.run();
        }
    }

    /** A coordinate: most often one at which something lies. */
    private int somewhere() {
        if (pick(12) == 0) {
            return odd();
        }
        if (model.game.cells.isEmpty() || pick(4) == 0) {
            return pick(12) - 4;
        }
        FoldedBoardModel.Cell c = model.game.cells.get(pick(model.game.cells.size()));
        return pick(2) == 0 ? c.x : c.y;
    }

    private void board(int w, int h) {
        check("board(" + w + ", " + h + ")", board.board(w, h), model.board(w, h));
    }

    private void hole(int c) {
        check("hole(" + c + ")", board.hole(c), model.hole(c));
    }

    private void man(int kind, int owner, int height, int cell) {
        check("man(" + kind + ", " + owner + ", " + height + ", " + cell + ")",
            board.man(kind, owner, height, cell), model.man(kind, owner, height, cell));
    }

    private void put(int what, int v) {
        check("put(" + what + ", " + v + ")", board.put(what, v), model.put(what, v));
    }

    private void step(int x, int y, int w, int d) {
        check("step(" + x + ", " + y + ", " + w + ", " + d + ")", board.step(x, y, w, d), model.step(x, y, w, d));
    }

    private void fold(int axis, int line, int way) {
        check("fold(" + axis + ", " + line + ", " + way + ")", board.fold(axis, line, way), model.fold(axis, line, way));
    }

    private void small() {
        if (model.game.w + model.game.h > 8 && pick(20) != 0) {
            return;
        }
        int k = pick(9) == 0 ? odd() : 1 + pick(pick(2) == 0 ? 36 : 9);
        check("small(" + k + ")", board.small(k), model.small(k));
    }

    private void reach() {
        int x = somewhere();
        int y = somewhere();
        if (model.count(1) > 0 && pick(3) != 0) {
            FoldedBoardModel.Cell c = model.game.cell(model.game.men.get(pick(model.count(1))).cell);
            x = c == null ? x : c.x;
            y = c == null ? y : c.y;
        }
        int n = pick(9) == 0 ? odd() : pick(10);
        check("reach(" + x + ", " + y + ", " + n + ")", board.reach(x, y, n), model.reach(x, y, n));
    }

    private void wins() {
        int n = pick(12) == 0 ? odd() : pick(4);
        if (n == 3 && model.count(1) > 4 && pick(20) != 0) {
            return;
        }
        check("wins(" + n + ")", board.wins(n), model.wins(n));
        check("best(" + n + ")", board.best(n), model.best(n));
    }

    private void type(long v, int n) {
        check("type(" + v + "L, " + n + ")", board.type(v, n), model.type(v, n));
    }

    /** Tells a game that may be played on from here, now and then with a byte that is off. */
    private void typeGame() {
        if (pick(2) == 0) {
            check("clear()", board.clear(), model.clear());
        }
        FoldedBoardModel.Game g = model.game.copy();
        StringBuilder b = new StringBuilder();
        int items = pick(8);
        for (int i = 0; i < items; i++) {
            List<FoldedBoardModel.Step> steps = g.steps();
            if (g.due > 0) {
                List<FoldedBoardModel.Fold> all = g.allFolds();
                FoldedBoardModel.Fold f = all.get(pick(all.size()));
                g.fold(f);
                b.append("fold ").append(f.axis()).append(' ').append(f.line()).append(' ').append(f.way());
            } else if (!steps.isEmpty()) {
                FoldedBoardModel.Step s = steps.get(pick(steps.size()));
                g.step(s);
                b.append("step ").append(s.x()).append(' ').append(s.y()).append("  ").append(s.w()).append(' ').append(s.d());
            } else {
                break;
            }
            b.append(pick(3) == 0 ? " ; " : ";");
        }
        if (pick(3) == 0 && b.length() > 0) {
            String signs = "-0123 ;stepfoldaz{`:/A\t";
            b.setCharAt(pick(b.length()), signs.charAt(pick(signs.length())));
        }
        if (pick(6) == 0 && b.length() > 0) {
            b.setLength(pick(b.length()));
        }
        for (int at = 0; at < b.length(); at += 8) {
            String part = b.substring(at, Math.min(at + 8, b.length()));
            long v = 0;
            for (int i = 0; i < part.length(); i++) {
                v = v << 8 | part.charAt(i);
            }
            type(v, part.length());
        }
        check("fault()", board.fault(), model.fault());
        check("judge()", board.judge(), model.judge());
    }
}
