/**
 * A board of squares that is folded along lines, with men on it who come to lie on one another.
 * The document ../shared/DOC.md says what each call answers; words in capitals are its terms.
 */
public final class FoldedBoard {
    public static final int NONE = -1, BAD = -2, NO = -3, FULL = -4;

    private static final int SIDE = 6, CELLS = SIDE * SIDE, MEN = 8, FOLDS = 3, UNDOS = 8, IMAGES = 2;
    private static final int BYTES = 200, MOST_STEPS = 3, WAYS = 4, MOST_FAR = 2;
    private static final int TOWER = 1, MOLE = 2, GIANT = 3, RUNNER = 4;
    private static final int NOT_SO_MANY = -5, BAD_TEN = -10, NO_STEP = -20, BAD_CELL = -1000, BAD_STATUS = -1;

    /** A row that tells how a game stands: MOVES, DUE, the FOLDS (how many, then each), the MEN's CELLS. */
    private static final int ROW_MOVES = 0, ROW_DUE = 1, ROW_FOLDS = 2, ROW_CELLS = 3 + 3 * FOLDS, ROW = ROW_CELLS + MEN;

    private static final int[] WAY_X = {0, 1, 0, -1};
    private static final int[] WAY_Y = {-1, 0, 1, 0};

    private final Play play = new Play();
    private final Past past = new Past();
    private final Tale tale = new Tale();
    private final Outlook outlook = new Outlook();
    private final Hunt hunt = new Hunt();
    private final Walk walk = new Walk();
    private final Shrink shrink = new Shrink();
    private final Play[] images = new Play[IMAGES];
    private final Past[] imagePasts = new Past[IMAGES];
    private final boolean[] kept = new boolean[IMAGES];
    private final int[] spare = new int[ROW];
    private int refusedBad, refusedNo, refusedFull;

    public FoldedBoard() {
        for (int i = 0; i < IMAGES; i++) {
            images[i] = new Play();
            imagePasts[i] = new Past();
        }
    }

    // ---- a board, men

    public int board(int w, int h) {
        if (!within(w, 2, SIDE) || !within(h, 2, SIDE)) {
            return refuseBad(BAD);
        }
        play.begin(w, h);
        past.forget();
        shrink.forget();
        return play.sheet.howMany();
    }

    public int hole(int cell) {
        if (!play.sheet.onBoard(cell)) {
            return refuseBad(BAD);
        }
        if (!play.sheet.has(cell) || play.manOn(cell) != NONE || play.sheet.folded > 0 || play.due > 0) {
            return refuseNo(NO);
        }
        play.sheet.cutOut(cell);
        past.forget();
        shrink.forget();
        return 1;
    }

    public int man(int kind, int owner, int height, int cell) {
        boolean told = within(kind, 0, RUNNER) && within(owner, 0, 1) && within(height, 1, 9);
        if (!told || !play.sheet.has(cell) || play.manOn(cell) != NONE) {
            return refuseBad(BAD);
        }
        if (play.men >= MEN) {
            return refuseFull();
        }
        past.forget();
        return play.enter(kind, owner, height, cell);
    }

    public int put(int what, int v) {
        if (what == 0 && within(v, 1, 9)) {
            int was = play.every;
            play.every = v;
            past.forget();
            return was;
        }
        if (what == 1 && within(v, 1, FOLDS)) {
            int was = play.times;
            play.times = v;
            past.forget();
            return was;
        }
        return refuseBad(BAD);
    }

    public int cell(int cell, int what) {
        if (!play.sheet.has(cell) || !within(what, 0, 3)) {
            return refuseBad(BAD_CELL);
        }
        switch (what) {
            case 0:
                return play.sheet.xs[cell];
            case 1:
                return play.sheet.ys[cell];
            case 2:
                return play.sheet.layers[cell];
            default:
                return play.sheet.downs[cell] ? 1 : 0;
        }
    }

    public int pile(int x, int y, int i) {
        if (i < NONE) {
            return refuseBad(BAD_TEN);
        }
        if (i == NONE) {
            return play.sheet.heightAt(x, y);
        }
        int found = play.sheet.cellAt(x, y, i);
        return found == NONE ? NOT_SO_MANY : found;
    }

    public int strength(int man) {
        if (!play.isIn(man)) {
            return refuseBad(BAD);
        }
        return play.powerOf(man);
    }

    public int ruler(int x, int y) {
        return play.rulerAt(x, y);
    }

    public int where(int man) {
        if (!within(man, 0, play.men - 1)) {
            return refuseBad(BAD);
        }
        return play.cells[man];
    }

    // ---- moves

    public int step(int x, int y, int w, int d) {
        if (!within(w, 0, WAYS - 1) || !within(d, 1, MOST_FAR)) {
            return refuseBad(BAD_TEN);
        }
        int goal = play.goalOf(x, y, w, d);
        if (goal == NONE) {
            return refuseNo(NO_STEP);
        }
        past.keep(play);
        return play.carry(play.rulerAt(x, y), goal);
    }

    public int fold(int axis, int line, int way) {
        if (!within(axis, 0, 1) || !within(way, 0, 1)) {
            return refuseBad(BAD);
        }
        if (play.due == 0 || !play.sheet.mayCrease(axis, line)) {
            return refuseNo(NO);
        }
        past.keep(play);
        play.creaseDue(axis, line, way);
        return play.due;
    }

    public int state(int what) {
        switch (what) {
            case 0:
                return play.moves;
            case 1:
                return play.onTurn();
            case 2:
                return play.due;
            case 3:
                return play.sheet.folded;
            case 4:
                return play.behindNow();
            case 5:
                return play.winner();
            default:
                return refuseBad(BAD_TEN);
        }
    }

    public int undo() {
        return past.goBack(play) ? 1 : refuseNo(NO);
    }

    // ---- what may be

    public int folds(int i) {
        if (i < NONE) {
            return refuseBad(BAD_TEN);
        }
        Sheet sheet = play.sheet;
        if (i == NONE) {
            return sheet.choices();
        }
        if (i >= sheet.choices()) {
            return NOT_SO_MANY;
        }
        return 1000 * sheet.choiceAxis(i) + 10 * (sheet.choiceLine(i) + 20) + sheet.choiceWay(i);
    }

    public int leaves(int i, int owner) {
        if (!within(i, 0, play.sheet.choices() - 1) || !within(owner, 0, 1)) {
            return refuseBad(BAD);
        }
        outlook.lookBehind(play, i);
        return outlook.rulersOf(play, owner);
    }

    public int habit() {
        return outlook.habitOf(play);
    }

    public int safe() {
        return outlook.safeMen(play);
    }

    public int small(int k) {
        if (!within(k, 1, CELLS)) {
            return refuseBad(BAD);
        }
        return shrink.fewestFolds(play.sheet, k);
    }

    public int reach(int x, int y, int n) {
        if (!within(n, 0, 9) || play.rulerAt(x, y) == NONE) {
            return refuseBad(BAD);
        }
        return walk.howFar(play, x, y, n);
    }

    public int wins(int n) {
        if (!within(n, 0, MOST_STEPS)) {
            return refuseBad(BAD);
        }
        return hunt.sureWithin(play, n) ? 1 : 0;
    }

    public int best(int n) {
        if (!within(n, 0, MOST_STEPS)) {
            return refuseBad(BAD);
        }
        return hunt.firstSure(play, n);
    }

    // ---- games

    public int type(long v, int n) {
        if (!within(n, 1, 8)) {
            return refuseBad(BAD);
        }
        if (tale.length + n > BYTES) {
            return refuseFull();
        }
        for (int i = n - 1; i >= 0; i--) {
            tale.add((int) ((v >>> (8 * i)) & 255L));
        }
        return tale.length;
    }

    public int clear() {
        int had = tale.length;
        tale.length = 0;
        return had;
    }

    public int fault() {
        return tale.faultPlace();
    }

    public int judge() {
        if (tale.faultPlace() != NONE) {
            return refuseNo(NO);
        }
        play.save(spare);
        int answer = firstWrongItem();
        play.load(spare);
        return answer;
    }

    // ---- what there is

    public int image(int i) {
        if (!isImage(i)) {
            return refuseBad(BAD);
        }
        images[i].copy(play);
        imagePasts[i].copy(past);
        kept[i] = true;
        return 1;
    }

    public int from(int i) {
        if (!isImage(i)) {
            return refuseBad(BAD);
        }
        if (!kept[i]) {
            return refuseNo(NO);
        }
        play.copy(images[i]);
        past.copy(imagePasts[i]);
        shrink.forget();
        return 1;
    }

    public int status(int what) {
        switch (what) {
            case 0:
                return refusedBad;
            case 1:
                return refusedNo;
            case 2:
                return refusedFull;
            default:
                return refuseBad(BAD_STATUS);
        }
    }

    public int count(int what) {
        switch (what) {
            case 0:
                return play.sheet.howMany();
            case 1:
                return play.men;
            case 2:
                return tale.length;
            case 3:
                return past.size;
            default:
                return refuseBad(BAD);
        }
    }

    public long digest() {
        long h = 653;
        h = mix(h, play.sheet.howMany());
        h = mix(h, play.men);
        h = mix(h, tale.length);
        h = mix(h, past.size);
        h = mixBoard(h);
        h = mix(h, play.every);
        h = mix(h, play.times);
        h = mix(h, play.moves);
        h = mix(h, play.due);
        for (int i = 0; i < 3 * play.sheet.folded; i++) {
            h = mix(h, play.sheet.creases[i]);
        }
        for (int i = 0; i < tale.length; i++) {
            h = mix(h, tale.bytes[i]);
        }
        return h;
    }

    private boolean isImage(int i) {
        return within(i, 0, IMAGES - 1) && images[i] != null && imagePasts[i] != null;
    }

    private long mixBoard(long before) {
        long h = mix(before, play.sheet.wide);
        h = mix(h, play.sheet.tall);
        for (int c = 0; c < CELLS; c++) {
            if (play.sheet.has(c)) {
                h = mix(h, c);
            }
        }
        for (int m = 0; m < play.men; m++) {
            h = mix(h, play.kinds[m]);
            h = mix(h, play.owners[m]);
            h = mix(h, play.heights[m]);
            h = mix(h, play.cells[m]);
        }
        return h;
    }

    private static long mix(long h, int v) {
        return 31 * h + v;
    }

    /** Plays THE GAME's ITEMS on; the caller puts the game back as it was. */
    private int firstWrongItem() {
        tale.rewind();
        for (int item = 0; item < BYTES; item++) {
            if (tale.readItem() != Tale.ITEM) {
                return NONE;
            }
            if (!playItem()) {
                return item;
            }
        }
        return NONE;
    }

    private boolean playItem() {
        int[] n = tale.numbers;
        if (tale.isStep) {
            int goal = play.goalOf(n[0], n[1], n[2], n[3]);
            if (goal == NONE) {
                return false;
            }
            play.carry(play.rulerAt(n[0], n[1]), goal);
            return true;
        }
        boolean told = within(n[0], 0, 1) && within(n[2], 0, 1);
        if (!told || play.due == 0 || !play.sheet.mayCrease(n[0], n[1])) {
            return false;
        }
        play.creaseDue(n[0], n[1], n[2]);
        return true;
    }

    private int refuseBad(int answer) {
        refusedBad++;
        return answer;
    }

    private int refuseNo(int answer) {
        refusedNo++;
        return answer;
    }

    private int refuseFull() {
        refusedFull++;
        return FULL;
    }

    private static boolean within(int v, int least, int most) {
        return v >= least && v <= most;
    }

    /** Whether what lies at 'at' on a FOLD's axis moves by it. */
    private static boolean turns(int at, int line, int way) {
        return way == 0 ? at >= line : at < line;
    }

    private static int mirrored(int at, int line) {
        return 2 * line - 1 - at;
    }

    private static int powerOfKind(int kind, int height, boolean down) {
        int tower = down ? height : height + 2;
        switch (kind) {
            case TOWER:
                return tower;
            case MOLE:
                return down ? height + 3 : height;
            case GIANT:
                return 2 * tower;
            default:
                return height;
        }
    }

    /** THE BOARD: which CELLS there are, where each lies, and the FOLDS that brought it there. */
    private static final class Sheet {
        private int wide, tall, folded;
        private int lowX, highX, lowY, highY, topLayer;
        private final boolean[] there = new boolean[CELLS];
        private final boolean[] downs = new boolean[CELLS];
        private final int[] xs = new int[CELLS];
        private final int[] ys = new int[CELLS];
        private final int[] layers = new int[CELLS];
        private final int[] creases = new int[3 * FOLDS];

        void begin(int w, int h) {
            wide = w;
            tall = h;
            for (int c = 0; c < CELLS; c++) {
                there[c] = onBoard(c);
            }
            flatten();
        }

        boolean onBoard(int c) {
            return within(c, 0, CELLS - 1) && c % SIDE < wide && c / SIDE < tall;
        }

        boolean has(int c) {
            return within(c, 0, CELLS - 1) && there[c];
        }

        void cutOut(int c) {
            if (has(c)) {
                there[c] = false;
                measure();
            }
        }

        int howMany() {
            int n = 0;
            for (int c = 0; c < CELLS; c++) {
                if (there[c]) {
                    n++;
                }
            }
            return n;
        }

        void flatten() {
            for (int c = 0; c < CELLS; c++) {
                xs[c] = c % SIDE;
                ys[c] = c / SIDE;
                layers[c] = 0;
                downs[c] = false;
            }
            folded = 0;
            measure();
        }

        /** Whether some CELLS lie at the line or beyond and some do not: the way makes no difference. */
        boolean mayCrease(int axis, int line) {
            return axis == 0 ? line > lowX && line <= highX : line > lowY && line <= highY;
        }

        void crease(int axis, int line, int way) {
            if (folded >= FOLDS) {
                return;
            }
            int sum = 2 * topLayer + 1;
            for (int c = 0; c < CELLS; c++) {
                if (!there[c] || !turns(axis == 0 ? xs[c] : ys[c], line, way)) {
                    continue;
                }
                if (axis == 0) {
                    xs[c] = mirrored(xs[c], line);
                } else {
                    ys[c] = mirrored(ys[c], line);
                }
                layers[c] = sum - layers[c];
                downs[c] = !downs[c];
            }
            creases[3 * folded] = axis;
            creases[3 * folded + 1] = line;
            creases[3 * folded + 2] = way;
            folded++;
            measure();
        }

        private void measure() {
            boolean any = false;
            lowX = 0;
            highX = 0;
            lowY = 0;
            highY = 0;
            topLayer = 0;
            for (int c = 0; c < CELLS; c++) {
                if (!there[c]) {
                    continue;
                }
                lowX = any && lowX < xs[c] ? lowX : xs[c];
                highX = any && highX > xs[c] ? highX : xs[c];
                lowY = any && lowY < ys[c] ? lowY : ys[c];
                highY = any && highY > ys[c] ? highY : ys[c];
                topLayer = topLayer > layers[c] ? topLayer : layers[c];
                any = true;
            }
        }

        /** How many of ALL FOLDS there are: two ways at each line between the outmost CELLS. */
        int choices() {
            return 2 * (highX - lowX) + 2 * (highY - lowY);
        }

        int choiceAxis(int i) {
            return i < 2 * (highX - lowX) ? 0 : 1;
        }

        int choiceLine(int i) {
            int across = 2 * (highX - lowX);
            return i < across ? lowX + 1 + i / 2 : lowY + 1 + (i - across) / 2;
        }

        int choiceWay(int i) {
            return i % 2;
        }

        boolean liesAt(int c, int x, int y) {
            return c >= 0 && c < CELLS && there[c] && xs[c] == x && ys[c] == y;
        }

        int topAt(int x, int y) {
            int top = NONE;
            for (int c = 0; c < CELLS; c++) {
                if (liesAt(c, x, y) && (top == NONE || layers[c] > layers[top])) {
                    top = c;
                }
            }
            return top;
        }

        int heightAt(int x, int y) {
            int n = 0;
            for (int c = 0; c < CELLS; c++) {
                if (liesAt(c, x, y)) {
                    n++;
                }
            }
            return n;
        }

        /** The i-th CELL from below at a POSITION: the one that has i CELLS under it there. */
        int cellAt(int x, int y, int i) {
            for (int c = 0; c < CELLS; c++) {
                if (liesAt(c, x, y) && cellsUnder(c) == i) {
                    return c;
                }
            }
            return NONE;
        }

        private int cellsUnder(int c) {
            int n = 0;
            for (int other = 0; other < CELLS; other++) {
                if (liesAt(other, xs[c], ys[c]) && layers[other] < layers[c]) {
                    n++;
                }
            }
            return n;
        }

        void save(int[] row) {
            row[ROW_FOLDS] = folded;
            for (int i = 0; i < 3 * folded; i++) {
                row[ROW_FOLDS + 1 + i] = creases[i];
            }
        }

        void load(int[] row) {
            if (isFoldedAs(row)) {
                return;
            }
            flatten();
            for (int f = 0; f < row[ROW_FOLDS] && f < FOLDS; f++) {
                int at = ROW_FOLDS + 1 + 3 * f;
                crease(row[at], row[at + 1], row[at + 2]);
            }
        }

        private boolean isFoldedAs(int[] row) {
            if (folded != row[ROW_FOLDS]) {
                return false;
            }
            for (int i = 0; i < 3 * folded; i++) {
                if (creases[i] != row[ROW_FOLDS + 1 + i]) {
                    return false;
                }
            }
            return true;
        }

        void copy(Sheet other) {
            wide = other.wide;
            tall = other.tall;
            folded = other.folded;
            System.arraycopy(other.there, 0, there, 0, CELLS);
            System.arraycopy(other.downs, 0, downs, 0, CELLS);
            System.arraycopy(other.xs, 0, xs, 0, CELLS);
            System.arraycopy(other.ys, 0, ys, 0, CELLS);
            System.arraycopy(other.layers, 0, layers, 0, CELLS);
            System.arraycopy(other.creases, 0, creases, 0, 3 * FOLDS);
            measure();
        }
    }

    /** A game as it stands: THE BOARD, the MEN on it, and whose move or FOLD is next. */
    private static final class Play {
        private final Sheet sheet = new Sheet();
        private final int[] kinds = new int[MEN];
        private final int[] owners = new int[MEN];
        private final int[] heights = new int[MEN];
        private final int[] cells = new int[MEN];
        private int men, moves, due;
        private int every = 7;
        private int times = 1;

        Play() {
            sheet.begin(SIDE, SIDE);
        }

        void begin(int w, int h) {
            sheet.begin(w, h);
            men = 0;
            moves = 0;
            due = 0;
        }

        int enter(int kind, int owner, int height, int cell) {
            if (men >= MEN) {
                return NONE;
            }
            kinds[men] = kind;
            owners[men] = owner;
            heights[men] = height;
            cells[men] = cell;
            men++;
            return men - 1;
        }

        boolean isIn(int man) {
            return man >= 0 && man < men && cells[man] >= 0 && cells[man] < CELLS;
        }

        int manOn(int cell) {
            for (int m = 0; m < men; m++) {
                if (isIn(m) && cells[m] == cell) {
                    return m;
                }
            }
            return NONE;
        }

        int onTurn() {
            return moves % 2;
        }

        int powerOf(int man) {
            return isIn(man) ? powerOfKind(kinds[man], heights[man], sheet.downs[cells[man]]) : 0;
        }

        int rulerAt(int x, int y) {
            int best = NONE;
            int mostPower = 0;
            int mostLayer = 0;
            for (int m = 0; m < men; m++) {
                int c = cells[m];
                if (!sheet.liesAt(c, x, y)) {
                    continue;
                }
                int power = powerOfKind(kinds[m], heights[m], sheet.downs[c]);
                int layer = sheet.layers[c];
                if (best == NONE || power > mostPower || (power == mostPower && layer > mostLayer)) {
                    best = m;
                    mostPower = power;
                    mostLayer = layer;
                }
            }
            return best;
        }

        private boolean isOpen(int x, int y) {
            return rulerAt(x, y) == NONE && sheet.topAt(x, y) != NONE;
        }

        /** The CELL to which a STEP brings the RULER of a POSITION; NONE: it may not be. */
        int goalOf(int x, int y, int way, int far) {
            if (due > 0 || !within(way, 0, WAYS - 1) || !within(far, 1, MOST_FAR)) {
                return NONE;
            }
            int man = rulerAt(x, y);
            if (man == NONE || owners[man] != onTurn()) {
                return NONE;
            }
            if (far == 2 && (kinds[man] != RUNNER || !isOpen(x + WAY_X[way], y + WAY_Y[way]))) {
                return NONE;
            }
            int toX = x + far * WAY_X[way];
            int toY = y + far * WAY_Y[way];
            int other = rulerAt(toX, toY);
            if (other == NONE) {
                return sheet.topAt(toX, toY);
            }
            boolean weaker = owners[other] != owners[man] && powerOf(other) < powerOf(man);
            return weaker ? cells[other] : NONE;
        }

        /** Does a STEP that goalOf() allows: the MAN that is TAKEN, or NONE. */
        int carry(int man, int goal) {
            if (!isIn(man) || !sheet.has(goal)) {
                return NONE;
            }
            int taken = manOn(goal);
            if (taken != NONE) {
                cells[taken] = NONE;
            }
            cells[man] = goal;
            moves++;
            if (every > 0 && moves % every == 0) {
                if (moves / every % 2 == 0) {
                    sheet.flatten();
                } else {
                    makeDue(times);
                }
            }
            return taken;
        }

        /** No more FOLDS are DUE than make 3 with those there are, and none, if none may be. */
        private void makeDue(int wished) {
            int most = sheet.choices() == 0 ? 0 : FOLDS - sheet.folded;
            due = wished < most ? wished : most;
        }

        void creaseDue(int axis, int line, int way) {
            sheet.crease(axis, line, way);
            makeDue(due - 1);
        }

        int behindNow() {
            int less = 0;
            for (int m = 0; m < men; m++) {
                int c = cells[m];
                int power = sheet.has(c) ? powerOfKind(kinds[m], heights[m], sheet.downs[c]) : 0;
                less += owners[m] == 0 ? power : -power;
            }
            if (less == 0) {
                return onTurn();
            }
            return less < 0 ? 0 : 1;
        }

        int menOf(int owner) {
            int n = 0;
            for (int m = 0; m < men; m++) {
                if (isIn(m) && owners[m] == owner) {
                    n++;
                }
            }
            return n;
        }

        int winner() {
            int first = menOf(0);
            int second = menOf(1);
            if (first + second == men) {
                return NONE;
            }
            if (first > 0 && second == 0) {
                return 0;
            }
            return first == 0 && second > 0 ? 1 : NONE;
        }

        void save(int[] row) {
            row[ROW_MOVES] = moves;
            row[ROW_DUE] = due;
            sheet.save(row);
            System.arraycopy(cells, 0, row, ROW_CELLS, MEN);
        }

        /** Back to a row that was saved since the last HOLE, MAN, put(): those are not in it. */
        void load(int[] row) {
            moves = row[ROW_MOVES];
            due = row[ROW_DUE];
            sheet.load(row);
            System.arraycopy(row, ROW_CELLS, cells, 0, MEN);
        }

        void copy(Play other) {
            sheet.copy(other.sheet);
            System.arraycopy(other.kinds, 0, kinds, 0, MEN);
            System.arraycopy(other.owners, 0, owners, 0, MEN);
            System.arraycopy(other.heights, 0, heights, 0, MEN);
            System.arraycopy(other.cells, 0, cells, 0, MEN);
            men = other.men;
            moves = other.moves;
            due = other.due;
            every = other.every;
            times = other.times;
        }
    }

    /** What may be undone: a ring of rows, so that the oldest goes when a ninth comes. */
    private static final class Past {
        private final int[][] rows = new int[UNDOS][ROW];
        private int next, size;

        void keep(Play play) {
            play.save(rows[next]);
            next = (next + 1) % UNDOS;
            size = Math.min(size + 1, UNDOS);
        }

        boolean goBack(Play play) {
            if (size == 0) {
                return false;
            }
            next = (next + UNDOS - 1) % UNDOS;
            size--;
            play.load(rows[next]);
            return true;
        }

        void forget() {
            size = 0;
        }

        void copy(Past other) {
            for (int i = 0; i < UNDOS; i++) {
                System.arraycopy(other.rows[i], 0, rows[i], 0, ROW);
            }
            next = other.next;
            size = other.size;
        }
    }

    /** Where the MEN would lie behind a FOLD; only their CELLS are folded, as nothing else is asked for. */
    private static final class Outlook {
        private final int[] xs = new int[MEN];
        private final int[] ys = new int[MEN];
        private final int[] layers = new int[MEN];
        private final int[] powers = new int[MEN];

        void lookBehind(Play play, int choice) {
            Sheet sheet = play.sheet;
            look(play, sheet.choiceAxis(choice), sheet.choiceLine(choice), sheet.choiceWay(choice));
        }

        /** As it is now: nothing lies at a line beyond the outmost CELL, so that FOLD moves nobody. */
        private void lookNow(Play play) {
            look(play, 0, play.sheet.highX + 1, 0);
        }

        private void look(Play play, int axis, int line, int way) {
            Sheet sheet = play.sheet;
            for (int m = 0; m < play.men; m++) {
                if (!play.isIn(m)) {
                    powers[m] = NONE;
                    continue;
                }
                int c = play.cells[m];
                boolean turned = turns(axis == 0 ? sheet.xs[c] : sheet.ys[c], line, way);
                xs[m] = turned && axis == 0 ? mirrored(sheet.xs[c], line) : sheet.xs[c];
                ys[m] = turned && axis == 1 ? mirrored(sheet.ys[c], line) : sheet.ys[c];
                layers[m] = turned ? 2 * sheet.topLayer + 1 - sheet.layers[c] : sheet.layers[c];
                powers[m] = powerOfKind(play.kinds[m], play.heights[m], sheet.downs[c] != turned);
            }
        }

        private int rulerOver(Play play, int man) {
            int best = man;
            for (int m = 0; m < play.men; m++) {
                if (powers[m] == NONE || xs[m] != xs[man] || ys[m] != ys[man]) {
                    continue;
                }
                boolean alike = powers[m] == powers[best];
                if (alike ? layers[m] > layers[best] : powers[m] > powers[best]) {
                    best = m;
                }
            }
            return best;
        }

        int rulersOf(Play play, int owner) {
            int n = 0;
            for (int m = 0; m < play.men; m++) {
                if (powers[m] != NONE && play.owners[m] == owner && rulerOver(play, m) == m) {
                    n++;
                }
            }
            return n;
        }

        int habitOf(Play play) {
            int side = play.behindNow();
            int best = NONE;
            int most = 0;
            Sheet sheet = play.sheet;
            for (int i = 0; i < sheet.choices(); i++) {
                look(play, sheet.choiceAxis(i), sheet.choiceLine(i), sheet.choiceWay(i));
                int gain = rulersOf(play, side) - rulersOf(play, 1 - side);
                if (best == NONE || gain > most) {
                    best = i;
                    most = gain;
                }
            }
            return best;
        }

        int safeMen(Play play) {
            lookNow(play);
            int bits = ruledByOwn(play);
            for (int i = 0; i < play.sheet.choices() && bits != 0; i++) {
                lookBehind(play, i);
                bits &= ruledByOwn(play);
            }
            return bits;
        }

        private int ruledByOwn(Play play) {
            int bits = 0;
            for (int m = 0; m < play.men; m++) {
                if (powers[m] != NONE && play.owners[rulerOver(play, m)] == play.owners[m]) {
                    bits |= 1 << m;
                }
            }
            return bits;
        }
    }

    /** WINS and BEST: tries STEPS on the game itself and puts it back from a row for each depth. */
    private static final class Hunt {
        private static final int STUCK = -2;
        private static final int STEPS_A_MAN = WAYS * MOST_FAR;

        private final Outlook outlook = new Outlook();
        private final int[][] rows = new int[MOST_STEPS + 1][ROW];
        private final int[][] leaders = new int[MOST_STEPS + 1][MEN];

        boolean sureWithin(Play play, int n) {
            // row 0 is free for this: no STEP is tried with none left
            play.save(rows[0]);
            boolean sure = isForced(play, play.onTurn(), n);
            play.load(rows[0]);
            return sure;
        }

        int firstSure(Play play, int n) {
            int me = play.onTurn();
            if (n == 0 || play.due > 0 || play.winner() == me) {
                return NONE;
            }
            int found = firstStep(play, me, n, true);
            if (found < 0) {
                return NONE;
            }
            int c = play.cells[leaders[n][found / STEPS_A_MAN]];
            if (!play.sheet.has(c)) {
                return NONE;
            }
            int position = 10000 * (play.sheet.ys[c] + 20) + 100 * (play.sheet.xs[c] + 20);
            return position + 10 * wayOf(found) + farOf(found);
        }

        private boolean isForced(Play play, int me, int left) {
            if (play.winner() == me) {
                return true;
            }
            boolean mine = play.onTurn() == me;
            if (!canBeTaken(play.menOf(1 - me), mine ? (left + 1) / 2 : left / 2)) {
                return false;
            }
            for (int i = 0; i < FOLDS && play.due > 0; i++) {
                int choice = outlook.habitOf(play);
                Sheet sheet = play.sheet;
                play.creaseDue(sheet.choiceAxis(choice), sheet.choiceLine(choice), sheet.choiceWay(choice));
            }
            if (mine) {
                return firstStep(play, me, left, true) >= 0;
            }
            return firstStep(play, me, left, false) == NONE;
        }

        /** A STEP takes one MAN at most, and who has none to lose from the first is never beaten. */
        private static boolean canBeTaken(int men, int steps) {
            return men > 0 && men <= steps;
        }

        /**
         * The number of the first STEP behind which 'me' is sure to win (or is not), as wanted;
         * NONE: there are STEPS, but none such; STUCK: there is no STEP. The game stays as it is.
         */
        private int firstStep(Play play, int me, int left, boolean wanted) {
            if (!within(left, 1, MOST_STEPS)) {
                return STUCK;
            }
            int[] order = leaders[left];
            int steps = STEPS_A_MAN * listLeaders(play, order);
            int answer = STUCK;
            play.save(rows[left]);
            for (int s = 0; s < steps; s++) {
                int man = order[s / STEPS_A_MAN];
                int c = play.cells[man];
                if (!play.sheet.has(c)) {
                    continue;
                }
                int goal = play.goalOf(play.sheet.xs[c], play.sheet.ys[c], wayOf(s), farOf(s));
                if (goal == NONE) {
                    continue;
                }
                answer = NONE;
                play.carry(man, goal);
                boolean sure = isForced(play, me, left - 1);
                play.load(rows[left]);
                if (sure == wanted) {
                    return s;
                }
            }
            return answer;
        }

        private static int wayOf(int step) {
            return step / MOST_FAR % WAYS;
        }

        private static int farOf(int step) {
            return step % MOST_FAR + 1;
        }

        /** The RULERS of who is on turn, by y, x of their POSITIONS: how many. */
        private static int listLeaders(Play play, int[] order) {
            int n = 0;
            for (int m = 0; m < play.men; m++) {
                if (!leads(play, m)) {
                    continue;
                }
                int at = n;
                while (at > 0 && liesAhead(play, m, order[at - 1])) {
                    order[at] = order[at - 1];
                    at--;
                }
                order[at] = m;
                n++;
            }
            return n;
        }

        private static boolean leads(Play play, int man) {
            if (!play.isIn(man) || play.owners[man] != play.onTurn()) {
                return false;
            }
            int c = play.cells[man];
            return play.rulerAt(play.sheet.xs[c], play.sheet.ys[c]) == man;
        }

        private static boolean liesAhead(Play play, int man, int other) {
            int a = play.cells[man];
            int b = play.cells[other];
            if (!play.sheet.has(a) || !play.sheet.has(b)) {
                return false;
            }
            int further = play.sheet.ys[a] - play.sheet.ys[b];
            return further < 0 || (further == 0 && play.sheet.xs[a] < play.sheet.xs[b]);
        }
    }

    /** REACH: the top CELL of each POSITION stands for it. */
    private static final class Walk {
        private final int[] steps = new int[CELLS];
        private final int[] queue = new int[CELLS];

        int howFar(Play play, int x, int y, int n) {
            for (int c = 0; c < CELLS; c++) {
                steps[c] = NONE;
            }
            int start = play.sheet.topAt(x, y);
            if (start == NONE) {
                return 0;
            }
            steps[start] = 0;
            queue[0] = start;
            int size = 1;
            for (int i = 0; i < size && i < CELLS; i++) {
                if (steps[queue[i]] < n) {
                    size = spread(play, queue[i], size);
                }
            }
            return size;
        }

        private int spread(Play play, int c, int before) {
            int size = before;
            for (int way = 0; way < WAYS; way++) {
                int x = play.sheet.xs[c] + WAY_X[way];
                int y = play.sheet.ys[c] + WAY_Y[way];
                int next = play.sheet.topAt(x, y);
                if (next != NONE && steps[next] == NONE && size < CELLS && play.rulerAt(x, y) == NONE) {
                    steps[next] = steps[c] + 1;
                    queue[size] = next;
                    size++;
                }
            }
            return size;
        }
    }

    /**
     * SMALL: columns and rows are folded apart, as a FOLD by x never looks at y, so FOLDS by x may come
     * first; and way 1 leaves the mirror image of what way 0 leaves, so way 0 is enough.
     */
    private static final class Shrink {
        private final int[][] xs = new int[FOLDS + 1][SIDE];
        private final int[][] ys = new int[FOLDS + 1][SIDE];
        private final boolean[] columns = new boolean[SIDE];
        private final boolean[] rows = new boolean[SIDE];
        private final int[] fewest = new int[FOLDS + 1];
        private boolean known;

        void forget() {
            known = false;
        }

        int fewestFolds(Sheet sheet, int k) {
            if (!known) {
                survey(sheet);
                known = true;
            }
            for (int f = 0; f <= FOLDS; f++) {
                if (fewest[f] <= k) {
                    return f;
                }
            }
            return NONE;
        }

        private void survey(Sheet sheet) {
            for (int i = 0; i < SIDE; i++) {
                xs[0][i] = i;
                ys[0][i] = i;
                columns[i] = false;
                rows[i] = false;
            }
            for (int c = 0; c < CELLS; c++) {
                if (sheet.has(c)) {
                    columns[c % SIDE] = true;
                    rows[c / SIDE] = true;
                }
            }
            for (int f = 0; f <= FOLDS; f++) {
                fewest[f] = CELLS + 1;
            }
            explore(sheet, 0, 0);
        }

        private void explore(Sheet sheet, int depth, int firstAxis) {
            if (!within(depth, 0, FOLDS)) {
                return;
            }
            fewest[depth] = Math.min(fewest[depth], positions(sheet, depth));
            for (int axis = firstAxis; axis <= 1 && depth < FOLDS; axis++) {
                int[] at = axis == 0 ? xs[depth] : ys[depth];
                boolean[] used = axis == 0 ? columns : rows;
                int low = outmost(at, used, false);
                int high = outmost(at, used, true);
                for (int line = low + 1; line <= high; line++) {
                    bend(xs[depth], xs[depth + 1], axis == 0, line);
                    bend(ys[depth], ys[depth + 1], axis == 1, line);
                    explore(sheet, depth + 1, axis);
                }
            }
        }

        private static void bend(int[] before, int[] behind, boolean bent, int line) {
            for (int i = 0; i < SIDE; i++) {
                behind[i] = bent && turns(before[i], line, 0) ? mirrored(before[i], line) : before[i];
            }
        }

        private static int outmost(int[] at, boolean[] used, boolean greatest) {
            boolean any = false;
            int found = 0;
            for (int i = 0; i < SIDE; i++) {
                if (used[i] && (!any || (greatest ? at[i] > found : at[i] < found))) {
                    found = at[i];
                    any = true;
                }
            }
            return found;
        }

        private int positions(Sheet sheet, int depth) {
            long seen = 0;
            for (int c = 0; c < CELLS; c++) {
                if (sheet.has(c)) {
                    seen |= 1L << (SIDE * firstLike(ys[depth], c / SIDE) + firstLike(xs[depth], c % SIDE));
                }
            }
            return Long.bitCount(seen);
        }

        private static int firstLike(int[] at, int i) {
            int first = 0;
            while (first < i && at[first] != at[i]) {
                first++;
            }
            return first;
        }
    }

    /** THE GAME: its bytes, and a reader of its TOKENS and ITEMS. */
    private static final class Tale {
        private static final int ITEM = 0, END = 1, WRONG = 2, WORD_STEP = 3, WORD_FOLD = 4, NUMBER = 5, SEMICOLON = 6;
        private static final int MOST_NUMBERS = 4;

        private final int[] bytes = new int[BYTES];
        private final int[] numbers = new int[MOST_NUMBERS];
        private int length;
        private boolean isStep;
        private int place, tokenPlace, tokenValue;

        void add(int b) {
            if (length < BYTES) {
                bytes[length] = b;
                length++;
            }
        }

        void rewind() {
            place = 0;
        }

        int faultPlace() {
            rewind();
            int found = ITEM;
            for (int i = 0; i <= BYTES && found == ITEM; i++) {
                found = readItem();
            }
            return found == WRONG ? tokenPlace : NONE;
        }

        /** ITEM: one was read; END: there is none more; WRONG: a TOKEN can not stand at tokenPlace. */
        int readItem() {
            int word = nextToken();
            if (word == END) {
                return END;
            }
            if (word != WORD_STEP && word != WORD_FOLD) {
                return WRONG;
            }
            isStep = word == WORD_STEP;
            int due = isStep ? MOST_NUMBERS : MOST_NUMBERS - 1;
            for (int i = 0; i < due; i++) {
                if (nextToken() != NUMBER) {
                    return WRONG;
                }
                numbers[i] = tokenValue;
            }
            return nextToken() == SEMICOLON ? ITEM : WRONG;
        }

        private int nextToken() {
            while (place < length && byteAt(place) == ' ') {
                place++;
            }
            tokenPlace = place;
            int b = byteAt(place);
            if (b == NONE) {
                return END;
            }
            if (isLetter(b)) {
                return readWord();
            }
            if (isFigure(b) || b == '-') {
                return readNumber();
            }
            place++;
            return b == ';' ? SEMICOLON : WRONG;
        }

        private int readWord() {
            while (place < length && isLetter(byteAt(place))) {
                place++;
            }
            if (tokenIs("step")) {
                return WORD_STEP;
            }
            return tokenIs("fold") ? WORD_FOLD : WRONG;
        }

        private boolean tokenIs(String word) {
            if (place - tokenPlace != word.length()) {
                return false;
            }
            for (int i = 0; i < word.length(); i++) {
                if (byteAt(tokenPlace + i) != word.charAt(i)) {
                    return false;
                }
            }
            return true;
        }

        private int readNumber() {
            boolean less = byteAt(place) == '-';
            if (less) {
                place++;
            }
            int figures = 0;
            int value = 0;
            while (place < length && isFigure(byteAt(place))) {
                // a third figure makes it WRONG, so its value is not asked for
                value = figures < 2 ? 10 * value + byteAt(place) - '0' : 0;
                figures++;
                place++;
            }
            tokenValue = less ? -value : value;
            return within(figures, 1, 2) ? NUMBER : WRONG;
        }

        private int byteAt(int i) {
            return within(i, 0, length - 1) ? bytes[i] : NONE;
        }

        private static boolean isLetter(int b) {
            return within(b, 'a', 'z');
        }

        private static boolean isFigure(int b) {
            return within(b, '0', '9');
        }
    }
}
