/** Promises 38 to 44, IMAGES and SHEETS: each sentence that names a boundary has a test of its own. */
public final class EdgesOfSheetsTest {
    private static final int BAD = Desk.BAD, STATE = Desk.STATE, NONE = Desk.NONE;
    private static final int LOW = Desk.LOW, HIGH = Desk.HIGH;
    private static final Desk.Start BARE = Desk.Start.BARE, BUSY = Desk.Start.BUSY, CROWDED = Desk.Start.CROWDED;

    private static long same(java.util.List<Long> a, java.util.List<Long> b) {
        return a.equals(b) ? 1 : 0;
    }

    private static void kept() {
        Desk.sentence(38, "IMAGE k (0, 1) is BLOCKS, THE WALL, SHIFT, WINDOW, REACH, UPSIDE, YEAR, ROLLS (all of them):"
            + " whether there was one (1, 0).");
        for (int k = 0; k < 2; k++) {
            FriezeFolk x = new FriezeFolk();
            Desk.due("keep(" + k + ")", x.keep(k), 0);
            Desk.due("count(1)", x.count(1), 1);
            Desk.due("keep(" + k + ") again", x.keep(k), 1);
            Desk.due("count(1)", x.count(1), 1);
            Desk.due("keep of the other", x.keep(1 - k), 0);
            Desk.due("count(1)", x.count(1), 2);
            x.text();
            Desk.due("keep(" + k + ") behind a text", x.keep(k), 0);
        }
        for (Desk.Start start : Desk.Start.values()) {
            for (int k = 0; k < 2; k++) {
                FriezeFolk x = start.make();
                java.util.List<Long> before = Desk.hallOf(x);
                x.keep(k);
                Desk.due("keep(" + k + ") changes nothing on " + start, same(Desk.hallOf(x), before), 1);
                x.end(0);
                changeAll(x);
                Desk.due("the changes are seen on " + start, same(Desk.hallOf(x), before), 0);
                x.back(k);
                Desk.due("all is as kept in " + k + " on " + start, same(Desk.hallOf(x), before), 1);
            }
        }
        FriezeFolk later = BUSY.make();
        later.keep(1);
        later.set(0, 1);
        later.keep(1);
        later.set(0, 12);
        later.back(1);
        Desk.due("rule(1), the latest is kept", later.rule(1), 1);
        Desk.sentence(38, "BAD.");
        Desk.bad("keep", 0, 1, FriezeFolk::keep);
    }

    private static void changeAll(FriezeFolk x) {
        x.alter(0, 0, x.block(0, 0) == 1 ? 2 : 1);
        x.alter(0, 1, x.block(0, 1) == 1 ? 2 : 1);
        x.print(3, 3);
        x.set(0, 12);
        for (int i = 0; i < 12; i++) {
            x.paint(i, 77 - i);
        }
        x.set(0, 5);
        x.set(1, 1);
        x.set(2, 6);
        x.set(3, 6);
        x.turn(x.rule(5) == 4 ? 99 : 4);
        x.years(3);
        x.drop(Math.min(1, x.rule(8)));
        x.stock(7, 6);
    }

    private static void broughtBack() {
        Desk.sentence(39, "All is as IMAGE k: YEAR.");
        FriezeFolk x = new FriezeFolk();
        x.keep(0);
        x.years(30);
        x.keep(1);
        Desk.due("back(0), the first year", x.back(0), 0);
        Desk.due("rule(6)", x.rule(6), 0);
        Desk.due("back(1)", x.back(1), 30);
        Desk.due("rule(6)", x.rule(6), 30);
        Desk.due("back(1) again", x.back(1), 30);
        FriezeFolk last = CROWDED.make();
        Desk.due("back(0) of 990", last.back(0), 990);
        Desk.due("back(1), the last year", last.back(1), 999);
        Desk.due("years(1)", last.years(1), Desk.FULL);
        Desk.due("count(0) stays", last.count(0), 6);
        Desk.due("count(1) stays", last.count(1), 2);
        Desk.due("count(2) stays", last.count(2), 160);
        Desk.due("count(3) stays", last.count(3), 40);
        x.back(0);
        x.print(1, 1);
        x.years(2);
        x.back(0);
        Desk.due("rule(0), the image is not what came of it", x.rule(0), 0);
        Desk.due("place(0, 1)", x.place(0, 1), 0);
        Desk.sentence(39, "BAD; STATE: there is none.");
        Desk.bad("back", 0, 1, FriezeFolk::back);
        Desk.still(BARE, "back(0) of none", y -> y.back(0), STATE);
        Desk.still(BARE, "back(1) of none", y -> y.back(1), STATE);
        Desk.still(BUSY, "back(1) of the one that is not there", y -> y.back(1), STATE);
        FriezeFolk gone = CROWDED.make();
        gone.text();
        Desk.due("back(0) behind a text", gone.back(0), STATE);
        Desk.due("back(1) behind a text", gone.back(1), STATE);
        FriezeFolk refused = CROWDED.make();
        refused.end(0);
        Desk.due("text() that is refused", Desk.tell(refused, "#"), -10);
        Desk.due("back(0) behind it", refused.back(0), 990);
    }

    private static void rows() {
        Desk.sentence(0, "SHEETS 0 to 3 are rows of BYTES (lane 0), SHORTS (1), INTS (2), all with a sign, with 0 to 40"
            + " CELLS, or nothing (at first).");
        Desk.due("count(3), nothing", new FriezeFolk().count(3), NONE);
        for (int k = 0; k < 4; k++) {
            for (int lane = 0; lane < 3; lane++) {
                FriezeFolk x = new FriezeFolk();
                Desk.due("sheet(" + k + ", " + lane + ", 0)", x.sheet(k, lane, 0), 1);
                Desk.due("lay(" + k + ", 0, 0) of no cell", x.lay(k, 0, 0), -12);
                Desk.due("sheet(" + k + ", " + lane + ", 40)", x.sheet(k, lane, 40), 1);
                Desk.due("lay(" + k + ", 39, 0) of forty", x.lay(k, 39, 0), 1);
                Desk.due("lay(" + k + ", 40, 0) of forty", x.lay(k, 40, 0), -12);
            }
        }
        int[] signs = {0x80, 0x8000, LOW};
        for (int lane = 0; lane < 3; lane++) {
            FriezeFolk x = new FriezeFolk();
            x.sheet(0, lane, 2);
            for (int v : new int[] {signs[lane], signs[lane] - 1, -1}) {
                x.lay(0, 0, v);
                Desk.due("read of a kind " + v + " by lane " + lane, x.read(0, lane, 0, 1), -20);
            }
            x.lay(0, 0, signs[lane] << 1 | 3);
            Desk.due("read of the lowest bits by lane " + lane, x.read(0, lane, 0, 1), 1);
            Desk.due("block(0, 0)", x.block(0, 0), 3);
        }
    }

    private static void machineFaults() {
        Desk.sentence(0, "A FAULT is what the machine finds: 1 NULL (nothing), 2 INDEX, 3 CAST (another lane), 4 SIZE"
            + " (below 0).");
        FriezeFolk x = new FriezeFolk();
        x.sheet(1, 1, 2);
        int[][] asked = {{0, 0, 0, 1}, {0, 2, -1, 1}, {1, 1, -1, 2}, {1, 1, 2, 2}, {1, 1, 1, 2}, {1, 0, 0, 3}, {1, 2, -1, 3}};
        for (int[] a : asked) {
            Desk.due("read(" + a[0] + ", " + a[1] + ", " + a[2] + ", 1)", x.read(a[0], a[1], a[2], 1), 0);
            Desk.due("torn()", x.torn(), a[3]);
        }
        Desk.due("sheet(1, 1, -1)", x.sheet(1, 1, -1), -14);
        Desk.due("lay(0, 0, 0)", x.lay(0, 0, 0), -11);
        Desk.due("lay(1, 2, 0)", x.lay(1, 2, 0), -12);
        Desk.due("read(1, 1, 0, 1), it is whole", x.read(1, 1, 0, 1), 1);
        Desk.due("torn()", x.torn(), 0);
    }

    private static void sheetsMade() {
        Desk.sentence(40, "A SHEET is a new row of CELLS 0: 1.");
        FriezeFolk x = new FriezeFolk();
        x.sheet(0, 0, 12);
        for (int i = 0; i < 12; i++) {
            x.lay(0, i, 3);
        }
        Desk.due("sheet(0, 0, 12) again", x.sheet(0, 0, 12), 1);
        Desk.due("read(0, 0, 0, 6)", x.read(0, 0, 0, 6), 6);
        for (int j = 0; j < 6; j++) {
            Desk.due("block(" + j + ", 0)", x.block(j, 0), 0);
            Desk.due("block(" + j + ", 1)", x.block(j, 1), 0);
        }
        Desk.due("sheet(0, 2, 1), shorter, of another lane", x.sheet(0, 2, 1), 1);
        Desk.due("count(3)", x.count(3), 1);
        Desk.due("lay(0, 1, 0)", x.lay(0, 1, 0), -12);
        Desk.due("sheet(0, 1, 0)", x.sheet(0, 1, 0), 1);
        Desk.due("count(3)", x.count(3), 0);
        Desk.due("sheet(0, 1, 40)", x.sheet(0, 1, 40), 1);
        Desk.due("count(3)", x.count(3), 40);
        Desk.due("sheet(3, 2, 40)", x.sheet(3, 2, 40), 1);
        Desk.due("another is by itself", x.lay(2, 0, 0), -11);
        Desk.sentence(40, "BAD: also n above 40; -14 (SIZE): n below 0.");
        Desk.bad("sheet(.., 0, 1)", 0, 3, (y, k) -> y.sheet(k, 0, 1));
        Desk.bad("sheet(0, .., 1)", 0, 2, (y, lane) -> y.sheet(0, lane, 1));
        Desk.stillAlways("sheet(0, 0, 41)", y -> y.sheet(0, 0, 41), BAD);
        Desk.stillAlways("sheet(3, 2, HIGH)", y -> y.sheet(3, 2, HIGH), BAD);
        Desk.stillAlways("sheet(0, 0, -1)", y -> y.sheet(0, 0, -1), -14);
        Desk.stillAlways("sheet(3, 2, LOW)", y -> y.sheet(3, 2, LOW), -14);
        Desk.bad("sheet(.., 0, -1), BAD ahead of SIZE", 0, 3, (y, k) -> y.sheet(k, 0, -1));
        Desk.bad("sheet(0, .., -1), BAD ahead of SIZE", 0, 2, (y, lane) -> y.sheet(0, lane, -1));
    }

    private static void cellsLaid() {
        Desk.sentence(41, "CELL i of a SHEET becomes v (its lowest bits): 1.");
        int[][] rows = {{0, 258, 2}, {0, -254, 2}, {0, 127, -20}, {0, 128, -20}, {0, 256, 0}, {0, HIGH, -20}, {0, LOW, 0},
            {1, 65538, 2}, {1, 258, -20}, {1, 32768, -20}, {1, 65536, 0}, {1, LOW, 0},
            {2, 2, 2}, {2, 65538, -20}, {2, LOW, -20}, {2, HIGH, -20}, {2, 3, 3}, {2, 4, -20}};
        for (int[] row : rows) {
            FriezeFolk x = new FriezeFolk();
            x.sheet(2, row[0], 3);
            Desk.due("lay(2, 0, " + row[1] + ")", x.lay(2, 0, row[1]), 1);
            Desk.due("read by lane " + row[0], x.read(2, row[0], 0, 1), row[2] < 0 ? row[2] : 1);
            Desk.due("block(0, 0)", x.block(0, 0), row[2] < 0 ? BAD : row[2]);
        }
        FriezeFolk x = new FriezeFolk();
        x.sheet(0, 2, 2);
        Desk.due("lay(0, 0, 1), the first", x.lay(0, 0, 1), 1);
        Desk.due("lay(0, 1, 9), the last", x.lay(0, 1, 9), 1);
        Desk.due("read(0, 2, 0, 1)", x.read(0, 2, 0, 1), 1);
        Desk.due("block(0, 0)", x.block(0, 0), 1);
        Desk.due("block(0, 1)", x.block(0, 1), 9);
        Desk.sentence(41, "BAD: k; -10 less the FAULT: NULL, INDEX.");
        Desk.bad("lay(.., 0, 0)", 0, 3, (y, k) -> y.lay(k, 0, 0));
        Desk.bad("lay(.., -1, 0), BAD ahead of INDEX", 0, 3, (y, k) -> y.lay(k, -1, 0));
        for (int i : new int[] {0, -1, 40, LOW, HIGH}) {
            Desk.still(BARE, "lay(3, " + i + ", 1) of nothing", y -> y.lay(3, i, 1), -11);
            Desk.still(BUSY, "lay(3, " + i + ", 1) of nothing", y -> y.lay(3, i, 1), -11);
        }
        for (int i : new int[] {-1, 40, LOW, HIGH}) {
            Desk.still(CROWDED, "lay(3, " + i + ", 1) of forty", y -> y.lay(3, i, 1), -12);
        }
        Desk.still(BUSY, "lay(0, 5, 1) of five", y -> y.lay(0, 5, 1), -12);
        Desk.still(BUSY, "lay(2, 6, 1) of six", y -> y.lay(2, 6, 1), -12);
    }

    /** Six pairs and a half, by order: confider 4, child 5, clerk 9, plain 0, confider 1, child 2, then 3 alone. */
    private static FriezeFolk laid(int lane) {
        FriezeFolk x = new FriezeFolk();
        x.sheet(1, lane, 13);
        int[] cells = {1, 4, 2, 5, 3, 9, 0, 0, 1, 1, 2, 2, 3};
        for (int i = 0; i < cells.length; i++) {
            x.lay(1, i, cells[i]);
        }
        return x;
    }

    private static void cellsRead() {
        Desk.sentence(42, "n (0 to 20) times a KIND, a WARMTH are read of a SHEET taken as of a lane, two CELLS each from"
            + " CELL f on, one behind another as by print(): how many came.");
        for (int lane = 0; lane < 3; lane++) {
            FriezeFolk x = laid(lane);
            Desk.due("read(1, lane, 0, 6)", x.read(1, lane, 0, 6), 6);
            Desk.due("torn()", x.torn(), 0);
            Desk.dueEach("block(.., 0)", x, (y, j) -> y.block(j, 0), 1, 2, 3, 0, 1, 2, BAD);
            Desk.dueEach("block(.., 1)", x, (y, j) -> y.block(j, 1), 4, 5, 9, 0, 1, 2, BAD);
            FriezeFolk last = laid(lane);
            Desk.due("read(1, lane, 11, 1), the last that is whole", last.read(1, lane, 11, 1), 1);
            Desk.due("block(0, 0)", last.block(0, 0), 2);
            Desk.due("block(0, 1)", last.block(0, 1), 3);
        }
        FriezeFolk behind = laid(0);
        behind.print(3, 3);
        Desk.due("read(1, 0, 2, 2)", behind.read(1, 0, 2, 2), 2);
        Desk.dueEach("block(.., 1), behind what there is", behind, (y, j) -> y.block(j, 1), 3, 5, 9, BAD);
    }

    private static void machineRefuses() {
        Desk.sentence(42, "What the machine refuses: those that were whole ahead came (its FAULT is asked by torn(); of n 0:"
            + " 0, no FAULT, whatever the SHEET is).");
        FriezeFolk x = laid(1);
        Desk.due("read(1, 1, 0, 7), half of the 7th", x.read(1, 1, 0, 7), 6);
        Desk.due("torn()", x.torn(), 2);
        Desk.due("rule(0)", x.rule(0), 6);
        FriezeFolk twenty = laid(2);
        Desk.due("read(1, 2, 9, 20)", twenty.read(1, 2, 9, 20), 2);
        Desk.due("torn()", twenty.torn(), 2);
        Desk.due("block(1, 1)", twenty.block(1, 1), 3);
        int[] firsts = {12, 13, 14, 40, -1, -2, LOW, LOW + 1, HIGH, HIGH - 1, HIGH - 39};
        for (int f : firsts) {
            FriezeFolk y = laid(0);
            Desk.due("read(1, 0, " + f + ", 20)", y.read(1, 0, f, 20), 0);
            Desk.due("torn()", y.torn(), 2);
            Desk.due("rule(0)", y.rule(0), 0);
            Desk.due("read(1, 0, " + f + ", 0)", y.read(1, 0, f, 0), 0);
            Desk.due("torn()", y.torn(), 0);
        }
        for (int lane = 0; lane < 3; lane++) {
            FriezeFolk y = laid(1);
            Desk.due("read(1, " + lane + ", 0, 1)", y.read(1, lane, 0, 1), lane == 1 ? 1 : 0);
            Desk.due("torn()", y.torn(), lane == 1 ? 0 : 3);
            Desk.due("read(1, " + lane + ", 99, 1)", y.read(1, lane, 99, 1), 0);
            Desk.due("torn(), CAST ahead of INDEX", y.torn(), lane == 1 ? 2 : 3);
            Desk.due("read(1, " + lane + ", 99, 0)", y.read(1, lane, 99, 0), 0);
            Desk.due("torn() of n 0", y.torn(), 0);
            Desk.due("read(0, " + lane + ", -1, 20) of nothing", y.read(0, lane, -1, 20), 0);
            Desk.due("torn(), NULL ahead of INDEX", y.torn(), 1);
            Desk.due("read(0, " + lane + ", -1, 0) of nothing", y.read(0, lane, -1, 0), 0);
            Desk.due("torn() of n 0", y.torn(), 0);
        }
        FriezeFolk empty = new FriezeFolk();
        empty.sheet(3, 0, 0);
        Desk.due("read(3, 0, 0, 1) of no cell", empty.read(3, 0, 0, 1), 0);
        Desk.due("torn()", empty.torn(), 2);
        empty.sheet(3, 0, 1);
        Desk.due("read(3, 0, 0, 1) of one cell", empty.read(3, 0, 0, 1), 0);
        Desk.due("torn()", empty.torn(), 2);
        Desk.still(BUSY, "read(3, 1, 0, 1), NULL again", y -> y.read(3, 1, 0, 1), 0);
        FriezeFolk full = CROWDED.make();
        Desk.due("read(0, 1, 0, 1) when full, CAST", full.read(0, 1, 0, 1), 0);
        Desk.due("torn()", full.torn(), 3);
        Desk.due("read(0, 0, 39, 1) when full, INDEX", full.read(0, 0, 39, 1), 0);
        Desk.due("torn()", full.torn(), 2);
    }

    private static void readsRefused() {
        Desk.sentence(42, "BAD: k, lane, n; -20 less i (0 on): the i-th, whole, is refused by print() (in whichever way):"
            + " then none came; the first met.");
        Desk.bad("read(.., 0, 0, 1)", 0, 3, (x, k) -> x.read(k, 0, 0, 1));
        Desk.bad("read(.., 0, 0, 0)", 0, 3, (x, k) -> x.read(k, 0, 0, 0));
        Desk.bad("read(0, .., 0, 1)", 0, 2, (x, lane) -> x.read(0, lane, 0, 1));
        Desk.bad("read(0, .., 0, 0)", 0, 2, (x, lane) -> x.read(0, lane, 0, 0));
        Desk.bad("read(0, 0, 0, ..)", 0, 20, (x, n) -> x.read(0, 0, 0, n));
        Desk.still(CROWDED, "read(0, 0, 0, 1), the 7th block", x -> x.read(0, 0, 0, 1), -20);
        Desk.still(CROWDED, "read(0, 0, 0, 20), the 7th block", x -> x.read(0, 0, 0, 20), -20);
        Desk.still(BUSY, "read(2, 2, 0, 3), the 7th block", x -> x.read(2, 2, 0, 3), -22);
        Desk.still(BUSY, "read(0, 0, 2, 1), refused as warmth alone is", x -> {
            x.lay(0, 3, 10);
            int answer = x.read(0, 0, 2, 1);
            x.lay(0, 3, 9);
            return answer;
        }, -20);
        FriezeFolk forty = new FriezeFolk();
        forty.sheet(0, 0, 40);
        Desk.due("read(0, 0, 0, 20), the 7th block", forty.read(0, 0, 0, 20), -26);
        Desk.due("rule(0)", forty.rule(0), 0);
        for (int i = 0; i < 6; i++) {
            for (int[] wrong : new int[][] {{0, 4}, {0, -1}, {1, 10}, {1, -1}}) {
                FriezeFolk x = laid(1);
                x.lay(1, 2 * i + wrong[0], wrong[1]);
                Desk.due("read(1, 1, 0, 20), wrong is the " + i + "th", x.read(1, 1, 0, 20), -20 - i);
                Desk.due("rule(0), none came", x.rule(0), 0);
                Desk.due("read(1, 1, 0, i), those ahead alone", x.read(1, 1, 0, i), i);
            }
        }
        FriezeFolk first = laid(1);
        first.lay(1, 2, 9);
        first.lay(1, 7, 99);
        Desk.due("read(1, 1, 0, 6), the first met", first.read(1, 1, 0, 6), -21);
        Desk.due("read(1, 1, 4, 6), the first met", first.read(1, 1, 4, 6), -21);
        first.lay(1, 12, 99);
        Desk.due("read(1, 1, 8, 3), what is not whole is the machine's", first.read(1, 1, 8, 3), 2);
        Desk.due("torn()", first.torn(), 2);
    }

    private static void tornLast() {
        Desk.sentence(43, "The FAULT of the latest read() that answered 0 or more; 0 (one that is refused leaves it).");
        FriezeFolk x = laid(1);
        Desk.due("torn() ahead of any", x.torn(), 0);
        x.read(0, 0, 0, 1);
        Desk.due("torn()", x.torn(), 1);
        Desk.due("read(4, 1, 0, 1)", x.read(4, 1, 0, 1), BAD);
        Desk.due("torn() is left", x.torn(), 1);
        x.read(1, 1, 13, 1);
        Desk.due("torn()", x.torn(), 2);
        Desk.due("read(1, 1, 0, 21)", x.read(1, 1, 0, 21), BAD);
        Desk.due("torn() is left", x.torn(), 2);
        x.read(1, 0, 0, 1);
        Desk.due("torn()", x.torn(), 3);
        Desk.due("read(1, 1, 1, 1), kind 4", x.read(1, 1, 1, 1), -20);
        Desk.due("torn() is left", x.torn(), 3);
        Desk.due("sheet(0, 0, -1)", x.sheet(0, 0, -1), -14);
        Desk.due("lay(0, 0, 0)", x.lay(0, 0, 0), -11);
        x.text();
        Desk.due("torn() is left by others", x.torn(), 3);
        x.read(1, 1, 0, 1);
        Desk.due("torn()", x.torn(), 0);
        Desk.due("read(1, 1, 1, 1), kind 4", x.read(1, 1, 1, 1), -20);
        Desk.due("torn() is left", x.torn(), 0);
        x.read(1, 0, 0, 1);
        x.read(1, 0, 0, 0);
        Desk.due("torn() of n 0", x.torn(), 0);
    }

    private static void counts() {
        Desk.sentence(44, "How many: 0 SEEN, 1 IMAGES, 2 bytes on THE TAPE, 3 CELLS of SHEET 0 (NONE: nothing), 4 WARMTH of"
            + " all BLOCKS, 5 FADE of all PLACES of THE WALL.");
        Desk.dueEach("count, nothing there", new FriezeFolk(), FriezeFolk::count, 0, 0, 0, NONE, 0, 0, BAD);
        FriezeFolk x = CROWDED.make();
        Desk.dueEach("count, all there can be", x, FriezeFolk::count, 6, 2, 160, 40, 39, 99, BAD);
        x.text();
        Desk.dueEach("count behind a text", x, FriezeFolk::count, 0, 0, 0, 40, 3, 0, BAD);
        FriezeFolk most = Desk.told("child 9;child 9;child 9;child 9;child 9;child 9;");
        Desk.due("count(4), most", most.count(4), 54);
        FriezeFolk fewer = Desk.told("child 9;child 8;child 7;");
        Desk.due("text() of fewer blocks", Desk.tell(fewer, "plain 1;"), 1);
        Desk.due("count(4), those that were count no more", fewer.count(4), 1);
        fewer.keep(0);
        fewer.print(0, 9);
        fewer.back(0);
        Desk.due("count(4), what came behind the image counts no more", fewer.count(4), 1);
        for (int i = 0; i < 12; i++) {
            most.paint(i, 99);
        }
        Desk.due("count(5), most", most.count(5), 12 * 99);
        most.set(0, 1);
        Desk.due("count(5) of one place", most.count(5), 99);
        most.sheet(1, 0, 7);
        Desk.due("count(3), sheet 1 is another", most.count(3), NONE);
        most.sheet(0, 0, 0);
        Desk.due("count(3), no cells", most.count(3), 0);
        Desk.sentence(44, "BAD.");
        Desk.bad("count", 0, 5, FriezeFolk::count);
    }

    public static void main(String[] args) {
        kept();
        broughtBack();
        rows();
        machineFaults();
        sheetsMade();
        cellsLaid();
        cellsRead();
        machineRefuses();
        readsRefused();
        tornLast();
        counts();
        Desk.close();
    }
}
