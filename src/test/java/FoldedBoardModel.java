import java.util.ArrayList;
import java.util.Comparator;
import java.util.HashSet;
import java.util.List;
import java.util.Set;
import java.util.TreeSet;

/**
 * The document told a second time, as plainly and slowly as can be, so that ModelTest can hold the class
 * against it: whole games are copied for each try, nothing is left out of a search, nothing is kept ready.
 */
final class FoldedBoardModel {
    static final int NONE = -1, BAD = -2, NO = -3, FULL = -4;

    static final class Cell {
        final int number;
        int x, y, layer;
        boolean down;

        Cell(int number) {
            this.number = number;
            x = number % 6;
            y = number / 6;
        }

        Cell copy() {
            Cell c = new Cell(number);
            c.x = x;
            c.y = y;
            c.layer = layer;
            c.down = down;
            return c;
        }
    }

    static final class Man {
        int kind, owner, height, cell;

        Man(int kind, int owner, int height, int cell) {
            this.kind = kind;
            this.owner = owner;
            this.height = height;
            this.cell = cell;
        }
    }

    record Fold(int axis, int line, int way) { }

    record Step(int x, int y, int w, int d) { }

    /** All that a STEP or a FOLD may change, and all that it looks at. */
    static final class Game {
        int w = 6, h = 6, every = 7, times = 1, moves, due;
        List<Cell> cells = new ArrayList<>();
        List<Man> men = new ArrayList<>();
        List<Fold> folds = new ArrayList<>();

        Game() {
            lay(6, 6);
        }

        private Game(int nothing) {
        }

        void lay(int wide, int high) {
            w = wide;
            h = high;
            cells.clear();
            for (int y = 0; y < high; y++) {
                for (int x = 0; x < wide; x++) {
                    cells.add(new Cell(6 * y + x));
                }
            }
        }

        Game copy() {
            Game g = new Game(0);
            g.w = w;
            g.h = h;
            g.every = every;
            g.times = times;
            g.moves = moves;
            g.due = due;
            for (Cell c : cells) {
                g.cells.add(c.copy());
            }
            for (Man m : men) {
                g.men.add(new Man(m.kind, m.owner, m.height, m.cell));
            }
            g.folds.addAll(folds);
            return g;
        }

        Cell cell(int number) {
            for (Cell c : cells) {
                if (c.number == number) {
                    return c;
                }
            }
            return null;
        }

        boolean occupied(int number) {
            return men.stream().anyMatch(m -> m.cell == number);
        }

        List<Cell> pile(int x, int y) {
            List<Cell> found = new ArrayList<>();
            for (Cell c : cells) {
                if (c.x == x && c.y == y) {
                    found.add(c);
                }
            }
            found.sort(Comparator.comparingInt(c -> c.layer));
            return found;
        }

        int strength(int man) {
            Man m = men.get(man);
            boolean down = cell(m.cell).down;
            int tower = m.height + (down ? 0 : 2);
            return switch (m.kind) {
                case 1 -> tower;
                case 2 -> m.height + (down ? 3 : 0);
                case 3 -> 2 * tower;
                default -> m.height;
            };
        }

        int ruler(int x, int y) {
            int best = NONE;
            for (Cell c : pile(x, y)) {
                for (int m = 0; m < men.size(); m++) {
                    // from below: of like ones the later one lies above
                    if (men.get(m).cell == c.number && (best == NONE || strength(m) >= strength(best))) {
                        best = m;
                    }
                }
            }
            return best;
        }

        boolean mayFold(Fold f) {
            int moving = 0;
            int staying = 0;
            for (Cell c : cells) {
                int at = f.axis == 0 ? c.x : c.y;
                if ((f.way == 0) == (at >= f.line)) {
                    moving++;
                } else {
                    staying++;
                }
            }
            return moving > 0 && staying > 0;
        }

        List<Fold> allFolds() {
            List<Fold> all = new ArrayList<>();
            for (int axis = 0; axis < 2; axis++) {
                for (int line = -40; line <= 40; line++) {
                    for (int way = 0; way < 2; way++) {
                        Fold f = new Fold(axis, line, way);
                        if (mayFold(f)) {
                            all.add(f);
                        }
                    }
                }
            }
            return all;
        }

        void bend(Fold f) {
            int greatest = 0;
            for (Cell c : cells) {
                greatest = Math.max(greatest, c.layer);
            }
            for (Cell c : cells) {
                int at = f.axis == 0 ? c.x : c.y;
                if ((f.way == 0) != (at >= f.line)) {
                    continue;
                }
                if (f.axis == 0) {
                    c.x = 2 * f.line - 1 - c.x;
                } else {
                    c.y = 2 * f.line - 1 - c.y;
                }
                c.layer = 2 * greatest + 1 - c.layer;
                c.down = !c.down;
            }
            folds.add(f);
        }

        void unfoldAll() {
            folds.clear();
            for (int i = 0; i < cells.size(); i++) {
                cells.set(i, new Cell(cells.get(i).number));
            }
        }

        int positions() {
            Set<Integer> seen = new HashSet<>();
            for (Cell c : cells) {
                seen.add(1000 * (c.y + 100) + c.x + 100);
            }
            return seen.size();
        }

        /** The MAN that is TAKEN, or NONE, or NO: it may not be, and nothing changed. */
        int step(Step s) {
            int[] dx = {0, 1, 0, -1};
            int[] dy = {-1, 0, 1, 0};
            if (due > 0 || s.w < 0 || s.w > 3 || s.d < 1 || s.d > 2) {
                return NO;
            }
            int mover = ruler(s.x, s.y);
            if (mover == NONE || men.get(mover).owner != moves % 2) {
                return NO;
            }
            if (s.d == 2) {
                if (men.get(mover).kind != 4) {
                    return NO;
                }
                if (pile(s.x + dx[s.w], s.y + dy[s.w]).isEmpty() || ruler(s.x + dx[s.w], s.y + dy[s.w]) != NONE) {
                    return NO;
                }
            }
            int toX = s.x + s.d * dx[s.w];
            int toY = s.y + s.d * dy[s.w];
            List<Cell> there = pile(toX, toY);
            if (there.isEmpty()) {
                return NO;
            }
            int other = ruler(toX, toY);
            if (other == NONE) {
                men.get(mover).cell = there.get(there.size() - 1).number;
            } else {
                if (men.get(other).owner == men.get(mover).owner || strength(other) >= strength(mover)) {
                    return NO;
                }
                men.get(mover).cell = men.get(other).cell;
                men.get(other).cell = NONE;
            }
            moves++;
            if (moves % every == 0) {
                if (moves / every % 2 == 1) {
                    due = Math.min(times, 3 - folds.size());
                    if (allFolds().isEmpty()) {
                        due = 0;
                    }
                } else {
                    unfoldAll();
                }
            }
            return other;
        }

        boolean fold(Fold f) {
            if (f.axis < 0 || f.axis > 1 || f.way < 0 || f.way > 1 || due == 0 || !mayFold(f)) {
                return false;
            }
            bend(f);
            due--;
            if (allFolds().isEmpty()) {
                due = 0;
            }
            return true;
        }

        int behind() {
            int[] sum = new int[2];
            for (int m = 0; m < men.size(); m++) {
                if (men.get(m).cell != NONE) {
                    sum[men.get(m).owner] += strength(m);
                }
            }
            return sum[0] == sum[1] ? moves % 2 : sum[0] < sum[1] ? 0 : 1;
        }

        int won() {
            int[] in = new int[2];
            boolean taken = false;
            for (Man m : men) {
                if (m.cell == NONE) {
                    taken = true;
                } else {
                    in[m.owner]++;
                }
            }
            for (int o = 0; o < 2; o++) {
                if (taken && in[o] > 0 && in[1 - o] == 0) {
                    return o;
                }
            }
            return NONE;
        }

        int rulers(int owner) {
            Set<Integer> found = new HashSet<>();
            for (Cell c : cells) {
                int r = ruler(c.x, c.y);
                if (r != NONE && men.get(r).owner == owner) {
                    found.add(r);
                }
            }
            return found.size();
        }

        int habit() {
            int side = behind();
            int best = NONE;
            int most = 0;
            List<Fold> all = allFolds();
            for (int i = 0; i < all.size(); i++) {
                Game g = copy();
                g.bend(all.get(i));
                int gain = g.rulers(side) - g.rulers(1 - side);
                if (best == NONE || gain > most) {
                    best = i;
                    most = gain;
                }
            }
            return best;
        }

        int ruledByOwn() {
            int bits = 0;
            for (int m = 0; m < men.size(); m++) {
                if (men.get(m).cell != NONE) {
                    Cell c = cell(men.get(m).cell);
                    if (men.get(ruler(c.x, c.y)).owner == men.get(m).owner) {
                        bits |= 1 << m;
                    }
                }
            }
            return bits;
        }

        int safe() {
            int bits = ruledByOwn();
            for (Fold f : allFolds()) {
                Game g = copy();
                g.bend(f);
                bits &= g.ruledByOwn();
            }
            return bits;
        }

        List<Step> steps() {
            List<Step> all = new ArrayList<>();
            TreeSet<Integer> places = new TreeSet<>();
            for (Man m : men) {
                if (m.cell != NONE) {
                    places.add(100 * (cell(m.cell).y + 50) + cell(m.cell).x + 50);
                }
            }
            for (int place : places) {
                for (int w = 0; w < 4; w++) {
                    for (int d = 1; d <= 2; d++) {
                        Step s = new Step(place % 100 - 50, place / 100 - 50, w, d);
                        if (copy().step(s) != NO) {
                            all.add(s);
                        }
                    }
                }
            }
            return all;
        }

        boolean wins(int me, int n) {
            if (won() == me) {
                return true;
            }
            if (n == 0) {
                return false;
            }
            Game now = copy();
            while (now.due > 0) {
                now.fold(now.allFolds().get(now.habit()));
            }
            List<Step> steps = now.steps();
            if (steps.isEmpty()) {
                return false;
            }
            boolean mine = now.moves % 2 == me;
            for (Step s : steps) {
                Game g = now.copy();
                g.step(s);
                if (g.wins(me, n - 1) == mine) {
                    return mine;
                }
            }
            return !mine;
        }
    }

    Game game = new Game();
    List<Game> undos = new ArrayList<>();
    final Game[] images = new Game[2];
    final List<List<Game>> imageUndos = new ArrayList<>(List.of(List.of(), List.of()));
    final List<Integer> text = new ArrayList<>();
    final int[] status = new int[3];

    private int refused(int reason, int answer) {
        status[reason]++;
        return answer;
    }

    private boolean onBoard(int cell) {
        return cell >= 0 && cell < 36 && cell % 6 < game.w && cell / 6 < game.h;
    }

    int board(int w, int h) {
        if (w < 2 || w > 6 || h < 2 || h > 6) {
            return refused(0, BAD);
        }
        game.lay(w, h);
        game.men.clear();
        game.folds.clear();
        game.moves = 0;
        game.due = 0;
        undos.clear();
        return w * h;
    }

    int hole(int cell) {
        if (!onBoard(cell)) {
            return refused(0, BAD);
        }
        if (game.cell(cell) == null || game.occupied(cell) || !game.folds.isEmpty() || game.due > 0) {
            return refused(1, NO);
        }
        game.cells.removeIf(c -> c.number == cell);
        undos.clear();
        return 1;
    }

    int man(int kind, int owner, int height, int cell) {
        if (kind < 0 || kind > 4 || owner < 0 || owner > 1 || height < 1 || height > 9) {
            return refused(0, BAD);
        }
        if (!onBoard(cell) || game.cell(cell) == null || game.occupied(cell)) {
            return refused(0, BAD);
        }
        if (game.men.size() == 8) {
            return refused(2, FULL);
        }
        undos.clear();
        game.men.add(new Man(kind, owner, height, cell));
        return game.men.size() - 1;
    }

    int put(int what, int v) {
        if (what < 0 || what > 1 || v < 1 || v > (what == 0 ? 9 : 3)) {
            return refused(0, BAD);
        }
        undos.clear();
        int was = what == 0 ? game.every : game.times;
        if (what == 0) {
            game.every = v;
        } else {
            game.times = v;
        }
        return was;
    }

    int cell(int cell, int what) {
        Cell c = game.cell(cell);
        if (c == null || what < 0 || what > 3) {
            return refused(0, -1000);
        }
        return new int[] {c.x, c.y, c.layer, c.down ? 1 : 0}[what];
    }

    int pile(int x, int y, int i) {
        List<Cell> pile = game.pile(x, y);
        if (i < -1) {
            return refused(0, -10);
        }
        return i == -1 ? pile.size() : i < pile.size() ? pile.get(i).number : -5;
    }

    int strength(int man) {
        if (man < 0 || man >= game.men.size() || game.men.get(man).cell == NONE) {
            return refused(0, BAD);
        }
        return game.strength(man);
    }

    int ruler(int x, int y) {
        return game.ruler(x, y);
    }

    int where(int man) {
        return man < 0 || man >= game.men.size() ? refused(0, BAD) : game.men.get(man).cell;
    }

    private void keep(Game before) {
        undos.add(before);
        if (undos.size() > 8) {
            undos.remove(0);
        }
    }

    int step(int x, int y, int w, int d) {
        if (w < 0 || w > 3 || d < 1 || d > 2) {
            return refused(0, -10);
        }
        Game before = game.copy();
        int taken = game.step(new Step(x, y, w, d));
        if (taken == NO) {
            return refused(1, -20);
        }
        keep(before);
        return taken;
    }

    int fold(int axis, int line, int way) {
        if (axis < 0 || axis > 1 || way < 0 || way > 1) {
            return refused(0, BAD);
        }
        Game before = game.copy();
        if (!game.fold(new Fold(axis, line, way))) {
            return refused(1, NO);
        }
        keep(before);
        return game.due;
    }

    int state(int what) {
        return switch (what) {
            case 0 -> game.moves;
            case 1 -> game.moves % 2;
            case 2 -> game.due;
            case 3 -> game.folds.size();
            case 4 -> game.behind();
            case 5 -> game.won();
            default -> refused(0, -10);
        };
    }

    int undo() {
        if (undos.isEmpty()) {
            return refused(1, NO);
        }
        game = undos.remove(undos.size() - 1);
        return 1;
    }

    int folds(int i) {
        List<Fold> all = game.allFolds();
        if (i < -1) {
            return refused(0, -10);
        }
        if (i == -1) {
            return all.size();
        }
        if (i >= all.size()) {
            return -5;
        }
        Fold f = all.get(i);
        return 1000 * f.axis + 10 * (f.line + 20) + f.way;
    }

    int leaves(int i, int owner) {
        List<Fold> all = game.allFolds();
        if (i < 0 || i >= all.size() || owner < 0 || owner > 1) {
            return refused(0, BAD);
        }
        Game g = game.copy();
        g.bend(all.get(i));
        return g.rulers(owner);
    }

    int habit() {
        return game.habit();
    }

    int safe() {
        return game.safe();
    }

    private static boolean canBeSmall(Game g, int k, int folds) {
        if (folds == 0) {
            return g.positions() <= k;
        }
        for (Fold f : g.allFolds()) {
            Game next = g.copy();
            next.bend(f);
            if (canBeSmall(next, k, folds - 1)) {
                return true;
            }
        }
        return false;
    }

    int small(int k) {
        if (k < 1 || k > 36) {
            return refused(0, BAD);
        }
        Game flat = game.copy();
        flat.men.clear();
        flat.unfoldAll();
        for (int f = 0; f <= 3; f++) {
            if (canBeSmall(flat, k, f)) {
                return f;
            }
        }
        return NONE;
    }

    int reach(int x, int y, int n) {
        if (n < 0 || n > 9 || game.ruler(x, y) == NONE) {
            return refused(0, BAD);
        }
        Set<List<Integer>> reached = new HashSet<>();
        reached.add(List.of(x, y));
        for (int i = 0; i < n; i++) {
            for (List<Integer> p : new ArrayList<>(reached)) {
                for (int[] by : new int[][] {{0, -1}, {1, 0}, {0, 1}, {-1, 0}}) {
                    int toX = p.get(0) + by[0];
                    int toY = p.get(1) + by[1];
                    if (!game.pile(toX, toY).isEmpty() && game.ruler(toX, toY) == NONE) {
                        reached.add(List.of(toX, toY));
                    }
                }
            }
        }
        return reached.size();
    }

    int wins(int n) {
        return n < 0 || n > 3 ? refused(0, BAD) : game.wins(game.moves % 2, n) ? 1 : 0;
    }

    int best(int n) {
        if (n < 0 || n > 3) {
            return refused(0, BAD);
        }
        int me = game.moves % 2;
        if (n == 0 || game.due > 0 || game.won() == me) {
            return NONE;
        }
        for (Step s : game.steps()) {
            Game g = game.copy();
            g.step(s);
            if (g.wins(me, n - 1)) {
                return 10000 * (s.y + 20) + 100 * (s.x + 20) + 10 * s.w + s.d;
            }
        }
        return NONE;
    }

    int type(long v, int n) {
        if (n < 1 || n > 8) {
            return refused(0, BAD);
        }
        if (text.size() + n > 200) {
            return refused(2, FULL);
        }
        for (int i = n - 1; i >= 0; i--) {
            text.add((int) (v >> (8 * i)) & 255);
        }
        return text.size();
    }

    int clear() {
        int had = text.size();
        text.clear();
        return had;
    }

    private String told() {
        StringBuilder b = new StringBuilder();
        for (int v : text) {
            b.append((char) v);
        }
        return b.toString();
    }

    private static final java.util.regex.Pattern TOKEN =
        java.util.regex.Pattern.compile(" *([a-z]+|-?[0-9]+|;|[^ ])");

    /** The ITEMS' TOKENS; the last of 'fault' is the FAULT. */
    private List<List<String>> items(int[] fault) {
        List<List<String>> items = new ArrayList<>();
        List<String> item = new ArrayList<>();
        String told = told();
        java.util.regex.Matcher m = TOKEN.matcher(told);
        int at = 0;
        fault[0] = NONE;
        while (m.find(at) && m.start() == at) {
            String token = m.group(1);
            boolean fits;
            if (item.isEmpty()) {
                fits = token.equals("step") || token.equals("fold");
            } else if (item.size() <= (item.get(0).equals("step") ? 4 : 3)) {
                fits = token.matches("-?[0-9][0-9]?");
            } else {
                fits = token.equals(";");
            }
            if (!fits) {
                fault[0] = m.start(1);
                return items;
            }
            item.add(token);
            if (token.equals(";")) {
                items.add(item);
                item = new ArrayList<>();
            }
            at = m.end();
        }
        if (!item.isEmpty()) {
            fault[0] = told.length();
        }
        return items;
    }

    int fault() {
        int[] fault = new int[1];
        items(fault);
        return fault[0];
    }

    int judge() {
        int[] fault = new int[1];
        List<List<String>> items = items(fault);
        if (fault[0] != NONE) {
            return refused(1, NO);
        }
        Game g = game.copy();
        for (int i = 0; i < items.size(); i++) {
            List<String> t = items.get(i);
            int a = Integer.parseInt(t.get(1));
            int b = Integer.parseInt(t.get(2));
            int c = Integer.parseInt(t.get(3));
            boolean done = t.get(0).equals("step")
                ? g.step(new Step(a, b, c, Integer.parseInt(t.get(4)))) != NO
                : g.fold(new Fold(a, b, c));
            if (!done) {
                return i;
            }
        }
        return NONE;
    }

    private static List<Game> copyAll(List<Game> games) {
        List<Game> copies = new ArrayList<>();
        for (Game g : games) {
            copies.add(g.copy());
        }
        return copies;
    }

    int image(int i) {
        if (i < 0 || i > 1) {
            return refused(0, BAD);
        }
        images[i] = game.copy();
        imageUndos.set(i, copyAll(undos));
        return 1;
    }

    int from(int i) {
        if (i < 0 || i > 1) {
            return refused(0, BAD);
        }
        if (images[i] == null) {
            return refused(1, NO);
        }
        game = images[i].copy();
        undos = copyAll(imageUndos.get(i));
        return 1;
    }

    int status(int what) {
        return what < 0 || what > 2 ? refused(0, -1) : status[what];
    }

    int count(int what) {
        return switch (what) {
            case 0 -> game.cells.size();
            case 1 -> game.men.size();
            case 2 -> text.size();
            case 3 -> undos.size();
            default -> refused(0, BAD);
        };
    }

    long digest() {
        List<Integer> all = new ArrayList<>();
        for (int i = 0; i < 4; i++) {
            all.add(count(i));
        }
        all.add(game.w);
        all.add(game.h);
        for (Cell c : game.cells) {
            all.add(c.number);
        }
        for (Man m : game.men) {
            all.addAll(List.of(m.kind, m.owner, m.height, m.cell));
        }
        all.addAll(List.of(game.every, game.times, game.moves, game.due));
        for (Fold f : game.folds) {
            all.addAll(List.of(f.axis, f.line, f.way));
        }
        all.addAll(text);
        long h = 653;
        for (int v : all) {
            h = 31 * h + v;
        }
        return h;
    }
}
