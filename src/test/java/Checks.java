import java.io.IOException;
import java.nio.file.Files;
import java.nio.file.Path;

/** What the tests share: answers held against those that are due, and boards that several of them begin with. */
abstract class Checks {
    static final int LOW = Integer.MIN_VALUE, HIGH = Integer.MAX_VALUE;

    private static final Path DOCUMENT = Path.of("../shared/DOC.md");
    private static String document = "";
    private static String about = "";
    private static int wrong, checks, sentences;

    static void promise(int number) {
        about("promise " + number);
    }

    static void about(String what) {
        about = what;
    }

    /** The document's own words that the next checks hold against: words it does not have are a fault of the test. */
    static void sentence(String words) {
        about = "\"" + words + "\"";
        sentences++;
        if (document.isEmpty()) {
            document = readDocument();
        }
        if (!document.contains(words)) {
            fail("the document does not say so");
        }
    }

    private static String readDocument() {
        try {
            return Files.readString(DOCUMENT).replaceAll("\\s+", " ");
        } catch (IOException e) {
            return "(" + DOCUMENT + " can not be read)";
        }
    }

    static void fail(String what) {
        wrong++;
        System.out.println(about + ": " + what);
    }

    static void due(String call, long got, long want) {
        checks++;
        if (got != want) {
            fail(call + " answered " + got + ", due is " + want);
        }
    }

    static void end() {
        String told = sentences == 0 ? "" : sentences + " sentences, ";
        System.out.println(told + checks + " checks, " + wrong + " wrong");
        System.exit(wrong == 0 && checks > 0 ? 0 : 1);
    }

    static void dueStatus(FoldedBoard b, int bad, int no, int full) {
        due("status(0)", b.status(0), bad);
        due("status(1)", b.status(1), no);
        due("status(2)", b.status(2), full);
    }

    static void duePile(FoldedBoard b, int x, int y, int... cells) {
        due("pile(" + x + ", " + y + ", -1)", b.pile(x, y, -1), cells.length);
        for (int i = 0; i < cells.length; i++) {
            due("pile(" + x + ", " + y + ", " + i + ")", b.pile(x, y, i), cells[i]);
        }
        due("pile(" + x + ", " + y + ", " + cells.length + ")", b.pile(x, y, cells.length), -5);
    }

    static void dueCell(FoldedBoard b, int cell, int... want) {
        for (int what = 0; what < 4; what++) {
            due("cell(" + cell + ", " + what + ")", b.cell(cell, what), want[what]);
        }
    }

    static void dueFolds(FoldedBoard b, int... want) {
        due("folds(-1)", b.folds(-1), want.length);
        for (int i = 0; i < want.length; i++) {
            due("folds(" + i + ")", b.folds(i), want[i]);
        }
        due("folds(" + want.length + ")", b.folds(want.length), -5);
    }

    static long hash(int... values) {
        long h = 653;
        for (int v : values) {
            h = 31 * h + v;
        }
        return h;
    }

    static void typeText(FoldedBoard b, String text) {
        for (int i = 0; i < text.length(); i++) {
            due("type(" + (int) text.charAt(i) + ", 1)", b.type(text.charAt(i), 1), b.count(2));
        }
    }

    /** THE GAME anew, by as few calls as can be. */
    static void tell(FoldedBoard b, String text) {
        b.clear();
        for (int at = 0; at < text.length(); at += 8) {
            int n = Math.min(8, text.length() - at);
            long v = 0;
            for (int i = 0; i < n; i++) {
                v = v << 8 | text.charAt(at + i);
            }
            due("type(.., " + n + ")", b.type(v, n), at + n);
        }
    }

    static void holes(FoldedBoard b, int... cells) {
        for (int c : cells) {
            due("hole(" + c + ")", b.hole(c), 1);
        }
    }

    /** EVERY 1: a MAN of 5 goes from 0, 0 to 0, 1, then so many FOLDS are DUE, and OWNER 1 is on turn. */
    static FoldedBoard dueAtOnce(int w, int h, int times) {
        FoldedBoard b = new FoldedBoard();
        b.board(w, h);
        b.put(0, 1);
        b.put(1, times);
        b.man(0, 0, 5, 0);
        due("step(0, 0, 2, 1)", b.step(0, 0, 2, 1), -1);
        due("state(2)", b.state(2), times);
        return b;
    }

    /** 4 wide, 2 high, folded in three: all 8 CELLS lie at 0, 1. */
    static FoldedBoard foldedInThree() {
        FoldedBoard b = dueAtOnce(4, 2, 3);
        due("fold(0, 2, 0)", b.fold(0, 2, 0), 2);
        due("fold(1, 1, 1)", b.fold(1, 1, 1), 1);
        due("fold(0, 1, 0)", b.fold(0, 1, 0), 0);
        return b;
    }

    /** A line of so many CELLS from 0, 0 on by x. */
    static FoldedBoard line(int cells) {
        FoldedBoard b = new FoldedBoard();
        b.board(cells, 2);
        for (int c = 6; c < 6 + cells; c++) {
            b.hole(c);
        }
        return b;
    }

    /** A line of 4 CELLS; the strong one at one end, the weak one at the other. */
    static FoldedBoard lineOfFour() {
        FoldedBoard b = line(4);
        b.man(0, 0, 9, 0);
        b.man(0, 1, 1, 3);
        return b;
    }
}
