import java.io.IOException;
import java.nio.file.Files;
import java.nio.file.Path;
import java.util.ArrayList;
import java.util.EnumMap;
import java.util.List;
import java.util.Map;

/**
 * What the tests of edges share: the sentence of the document that is tested, the answers that are due, and portraits
 * of an object by which it is seen that a call changed nothing.
 */
final class Desk {
    static final int BAD = -1, STATE = -2, FULL = -3, NONE = -4;
    static final int LOW = Integer.MIN_VALUE, HIGH = Integer.MAX_VALUE;
    static final Path DOCUMENT = Path.of("../shared/DOC.md");

    /** A call, or several, of which the last one's answer counts. */
    interface Call {
        long on(FriezeFolk x);
    }

    /** A call with one number that is varied. */
    interface Ask {
        long on(FriezeFolk x, int v);
    }

    private interface View {
        void draw(FriezeFolk x, List<Long> lines);
    }

    /** Objects to begin with; every one made by the same calls is in the same state. */
    enum Start {
        /** As it is made. */
        BARE,
        /** Something of everything, nothing full: 4 blocks, 3 rolls, 2 seen, 1 image, 3 sheets, 8 bytes. */
        BUSY,
        /** As much as there can be of everything. */
        CROWDED;

        FriezeFolk make() {
            FriezeFolk x = new FriezeFolk();
            if (this == BUSY) {
                makeBusy(x);
            } else if (this == CROWDED) {
                makeCrowded(x);
            }
            return x;
        }
    }

    static final String ALL =
        "plain 5;confider 4;child 7;clerk 9;wall 11 2;window 3 2;upside 6;roll 5 3;roll 3 2;roll 9 5;";
    private static final int[][] MOST_BLOCKS = {{0, 9}, {1, 8}, {2, 7}, {3, 6}, {2, 5}, {2, 4}};
    private static final int[][] MOST_ROLLS = {{9, 8}, {8, 9}, {7, 7}, {6, 5}};
    /** An object has 512 calls, too few for all of these, so each view has a new object. */
    private static final View[] VIEWS = {
        Desk::drawAll, Desk::drawHidden, Desk::drawSeen,
        (x, lines) -> drawImage(x, 0, lines), (x, lines) -> drawImage(x, 1, lines),
        (x, lines) -> drawSheet(x, 0, lines), (x, lines) -> drawSheet(x, 1, lines),
        (x, lines) -> drawSheet(x, 2, lines), (x, lines) -> drawSheet(x, 3, lines),
        Desk::drawTape};

    private static final Map<Start, List<List<Long>>> PORTRAITS = new EnumMap<>(Start.class);
    private static String sentence = "";
    private static int promise = 0;
    private static int wrong = 0;
    private static int checked = 0;

    private Desk() {
    }

    /** The document's words that the next checks hold it to; promise 0 is its Terms. QuotesTest looks them up. */
    static void sentence(int ofPromise, String words) {
        promise = ofPromise;
        sentence = words;
    }

    static void due(String call, long got, long want) {
        checked++;
        if (got != want) {
            fail(call + " answered " + got + ", due is " + want);
        }
    }

    /** The answers of one call to the numbers from 0 on. */
    static void dueEach(String call, FriezeFolk x, Ask ask, long... want) {
        for (int v = 0; v < want.length; v++) {
            due(call + " by " + v, ask.on(x, v), want[v]);
        }
    }

    private static void fail(String what) {
        wrong++;
        System.out.println((promise == 0 ? "terms" : "promise " + promise) + ", '" + sentence + "': " + what);
    }

    /** The call has that answer and all is as it was before it. */
    static void still(Start start, String call, Call ask, long want) {
        due(call + " on " + start, ask.on(start.make()), want);
        List<List<Long>> before = PORTRAITS.computeIfAbsent(start, s -> portrait(s, x -> 0));
        List<List<Long>> after = portrait(start, ask);
        for (int view = 0; view < VIEWS.length; view++) {
            if (!after.get(view).equals(before.get(view))) {
                fail(call + " on " + start + " changed what there is: view " + view + " was " + before.get(view)
                    + ", is " + after.get(view));
            }
        }
    }

    static void stillAlways(String call, Call ask, long want) {
        for (Start start : Start.values()) {
            still(start, call, ask, want);
        }
    }

    /** The first numbers outside the bounds, on both sides, and the last there are, are BAD and change nothing. */
    static void bad(String call, int least, int most, Ask ask) {
        for (int v : new int[] {least - 1, most + 1, LOW, HIGH}) {
            stillAlways(call + " by " + v, x -> ask.on(x, v), BAD);
        }
    }

    static FriezeFolk told(String text) {
        FriezeFolk x = new FriezeFolk();
        int answer = tell(x, text);
        if (answer < 0) {
            fail("text '" + text + "' answered " + answer);
        }
        return x;
    }

    static void feedAll(FriezeFolk x, String text) {
        for (int i = 0; i < text.length(); i++) {
            x.feed(text.charAt(i));
        }
    }

    static int tell(FriezeFolk x, String text) {
        feedAll(x, text);
        return x.text();
    }

    static List<List<Long>> portrait(Start start, Call ask) {
        List<List<Long>> views = new ArrayList<>();
        for (View view : VIEWS) {
            FriezeFolk x = start.make();
            ask.on(x);
            List<Long> lines = new ArrayList<>();
            view.draw(x, lines);
            views.add(lines);
        }
        return views;
    }

    /** What a text tells, the fades that the wall is too short for included. */
    static List<Long> hallOf(FriezeFolk x) {
        List<Long> lines = new ArrayList<>();
        drawHall(x, lines);
        return lines;
    }

    private static void drawHall(FriezeFolk x, List<Long> lines) {
        for (int what = 0; what <= 8; what++) {
            lines.add((long) x.rule(what));
        }
        for (int j = 0; j < 6; j++) {
            lines.add((long) x.block(j, 0));
            lines.add((long) x.block(j, 1));
        }
        for (int k = 0; k < 4; k++) {
            lines.add((long) x.roll(k, 0));
            lines.add((long) x.roll(k, 1));
        }
        int wide = x.set(0, 12);
        for (int i = 0; i < 12; i++) {
            lines.add((long) x.place(i, 1));
        }
        x.set(0, wide);
    }

    private static void drawAll(FriezeFolk x, List<Long> lines) {
        drawHall(x, lines);
        for (int what = 0; what <= 5; what++) {
            lines.add((long) x.count(what));
        }
        lines.add((long) x.fault());
        lines.add((long) x.torn());
        lines.add((long) x.shifts());
    }

    /** Blocks and rolls that are there no more must not come again with the next one. */
    private static void drawHidden(FriezeFolk x, List<Long> lines) {
        for (int i = 0; i < 12; i++) {
            lines.add((long) x.place(i, 0));
            lines.add((long) x.place(i, 2));
        }
        lines.add((long) x.print(1, 6));
        lines.add((long) x.stock(4, 2));
        drawHall(x, lines);
    }

    /** What is seen is asked of again and again, each time with the latest forgotten. */
    private static void drawSeen(FriezeFolk x, List<Long> lines) {
        for (int n = x.count(0); n >= 0 && n <= 6; n--) {
            lines.add((long) x.forget(n));
            lines.add((long) x.shifts());
            for (int j = 0; j < 6; j++) {
                lines.add((long) x.kinds(j));
                lines.add((long) x.warmths(j));
            }
        }
    }

    private static void drawImage(FriezeFolk x, int k, List<Long> lines) {
        lines.add((long) x.back(k));
        drawHall(x, lines);
    }

    /** Each pair of cells is printed on a hall without blocks; whichever lane it is, two others refuse. */
    private static void drawSheet(FriezeFolk x, int k, List<Long> lines) {
        x.end(0);
        x.text();
        x.keep(0);
        for (int lane = 0; lane < 3; lane++) {
            lines.add((long) x.read(k, lane, 0, 1));
            lines.add((long) x.torn());
            x.back(0);
            if (x.torn() != 1 && x.torn() != 3) {
                drawCells(x, k, lane, lines);
            }
        }
    }

    private static void drawCells(FriezeFolk x, int k, int lane, List<Long> lines) {
        for (int f = 0; f <= 40; f += 2) {
            int came = x.read(k, lane, f, 1);
            lines.add((long) came);
            if (came == 0) {
                return;
            }
            lines.add((long) x.block(0, 0));
            lines.add((long) x.block(0, 1));
            x.back(0);
        }
    }

    private static void drawTape(FriezeFolk x, List<Long> lines) {
        lines.add((long) x.text());
        lines.add((long) x.fault());
        drawHall(x, lines);
    }

    private static void makeBusy(FriezeFolk x) {
        tell(x, ALL);
        x.years(4);
        x.paint(10, 8);
        x.set(0, 12);
        x.paint(11, 6);
        x.set(0, 11);
        x.see(0, 14);
        x.see(9, 4);
        x.keep(0);
        x.alter(1, 1, 3);
        x.years(2);
        x.paint(0, 1);
        x.paint(9, 1);
        x.sheet(0, 0, 5);
        x.sheet(1, 1, 4);
        x.sheet(2, 2, 6);
        for (int k = 0; k < 3; k++) {
            x.lay(k, 0, k + 1);
            x.lay(k, 3, 9 - k);
        }
        x.read(3, 0, 0, 1);
        tell(x, "x");
        feedAll(x, "clerk 2;");
    }

    private static void makeCrowded(FriezeFolk x) {
        for (int[] block : MOST_BLOCKS) {
            x.print(block[0], block[1]);
        }
        for (int[] roll : MOST_ROLLS) {
            x.stock(roll[0], roll[1]);
        }
        x.set(1, 5);
        x.set(2, 11);
        x.set(3, 0);
        x.turn(11);
        for (int n = 0; n < 33; n++) {
            x.years(30);
        }
        x.keep(0);
        x.years(9);
        x.set(3, 11);
        for (int n = 0; n < 5; n++) {
            x.see(3, x.place(3, 2));
        }
        x.see(0, 4);
        x.keep(1);
        for (int k = 0; k < 4; k++) {
            x.sheet(k, k % 3, 40);
            x.lay(k, 38, 3);
            x.lay(k, 39, 9 - k);
        }
        feedAll(x, "child 3;");
        for (int n = 8; n < 160; n++) {
            x.feed(' ');
        }
    }

    static String document() throws IOException {
        return Files.readString(DOCUMENT);
    }

    static void close() {
        System.out.println(wrong == 0 ? checked + " answers are as due" : wrong + " answers are not as due");
        if (wrong != 0) {
            System.exit(1);
        }
    }
}
