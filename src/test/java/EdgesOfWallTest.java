/** Promises 6 to 16, BLOCKS, THE WALL, ROLLS: each sentence that names a boundary has a test of its own. */
public final class EdgesOfWallTest {
    private static final int BAD = Desk.BAD, STATE = Desk.STATE, FULL = Desk.FULL, NONE = Desk.NONE;
    private static final Desk.Start BARE = Desk.Start.BARE, BUSY = Desk.Start.BUSY, CROWDED = Desk.Start.CROWDED;
    private static final String SIX = "plain 1;plain 2;plain 3;plain 4;plain 5;plain 6;";

    private static void answers() {
        Desk.sentence(0, "Answers: BAD -1 (a number is not as told, there is no such BLOCK, PLACE, ROLL, IMAGE, SHEET),"
            + " STATE -2 (as told), FULL -3, NONE -4 (there is none), the first that fits;"
            + " what is refused changes nothing (but THE TAPE, as told).");
        Desk.due("BAD", FriezeFolk.BAD, -1);
        Desk.due("STATE", FriezeFolk.STATE, -2);
        Desk.due("FULL", FriezeFolk.FULL, -3);
        Desk.due("NONE", FriezeFolk.NONE, -4);
        Desk.still(CROWDED, "feed(128), BAD ahead of FULL", x -> x.feed(128), BAD);
        Desk.still(CROWDED, "print(4, 9), BAD ahead of FULL", x -> x.print(4, 9), BAD);
        Desk.still(CROWDED, "stock(9, 10), BAD ahead of FULL", x -> x.stock(9, 10), BAD);
        Desk.still(CROWDED, "years(31), BAD ahead of FULL", x -> x.years(31), BAD);
        Desk.still(CROWDED, "see(12, 0), BAD ahead of FULL", x -> x.see(12, 0), BAD);
        Desk.still(BARE, "back(2), BAD ahead of STATE", x -> x.back(2), BAD);
        Desk.still(BARE, "cover(61, 0), BAD ahead of NONE", x -> x.cover(61, 0), BAD);
        Desk.still(BARE, "cover(1, 2), BAD ahead of NONE", x -> x.cover(1, 2), BAD);
        Desk.still(BARE, "swap(2), BAD ahead of NONE", x -> x.swap(2), BAD);
        Desk.still(BARE, "ask(2), BAD ahead of NONE", x -> x.ask(2), BAD);
        Desk.still(BARE, "period(), STATE", FriezeFolk::period, STATE);
    }

    private static void numbering() {
        Desk.sentence(0, "What is numbered has its numbers from 0 on, as it comes, where nothing else is told.");
        FriezeFolk x = Desk.told("clerk 8;child 7;roll 6 5;roll 4 3;");
        x.print(1, 6);
        x.stock(2, 1);
        Desk.dueEach("block(.., 1)", x, (y, j) -> y.block(j, 1), 8, 7, 6, BAD);
        Desk.dueEach("roll(.., 0)", x, (y, k) -> y.roll(k, 0), 6, 4, 2, BAD);
        Desk.due("block(-1, 1)", x.block(-1, 1), BAD);
        Desk.due("roll(-1, 1)", x.roll(-1, 1), BAD);
    }

    private static void atFirst() {
        FriezeFolk x = new FriezeFolk();
        Desk.sentence(0, "THE WALL: PLACES 0 on, as many as it is LONG (1 to 12; 12 at first),"
            + " each with a FADE (0 to 99; 0 at first; PLACES that are not there keep theirs).");
        Desk.due("rule(1)", x.rule(1), 12);
        for (int i = 0; i < 12; i++) {
            Desk.due("place(" + i + ", 1)", x.place(i, 1), 0);
        }
        Desk.due("place(12, 1)", x.place(12, 1), BAD);
        for (int wide = 12; wide >= 1; wide--) {
            x.paint(wide - 1, 100 - wide);
            x.set(0, wide);
            Desk.due("place(LONG - 1, 1)", x.place(wide - 1, 1), 100 - wide);
            Desk.due("place(LONG, 1)", x.place(wide, 1), BAD);
        }
        Desk.due("years(3) of one place", x.years(3), 0);
        x.set(0, 12);
        for (int i = 1; i < 12; i++) {
            Desk.due("place(" + i + ", 1) is kept", x.place(i, 1), 99 - i);
        }
        Desk.due("place(0, 1), 99 at most", x.place(0, 1), 99);
        FriezeFolk y = new FriezeFolk();
        Desk.sentence(0, "SHIFT (0 to 5; 0 at first).");
        Desk.due("rule(2)", y.rule(2), 0);
        Desk.sentence(0, "WINDOW (0 to 11; 0 at first), REACH (0 to 11; 2 at first).");
        Desk.due("rule(3)", y.rule(3), 0);
        Desk.due("rule(4)", y.rule(4), 2);
        y.years(1);
        Desk.dueEach("place(.., 1)", y, (z, i) -> z.place(i, 1), 1, 1, 1, 0);
        Desk.sentence(0, "UPSIDE: a PLACE (0 to 11), or none (at first).");
        Desk.due("rule(5)", y.rule(5), NONE);
        Desk.due("turn(0)", y.turn(0), NONE);
        Desk.sentence(0, "YEAR (0 at first).");
        Desk.due("rule(6)", new FriezeFolk().rule(6), 0);
    }

    private static void mostThatThereAre() {
        Desk.sentence(0, "BLOCKS (6 at most), by order, each of a KIND (0 plain, 1 confider, 2 child, 3 clerk),"
            + " of a WARMTH (0 to 9).");
        FriezeFolk x = new FriezeFolk();
        for (int j = 0; j < 6; j++) {
            Desk.due("print(" + j % 4 + ", " + (9 - j) + ")", x.print(j % 4, 9 - j), j + 1);
        }
        Desk.due("print(0, 0), the 7th", x.print(0, 0), FULL);
        Desk.dueEach("block(.., 0)", x, (y, j) -> y.block(j, 0), 0, 1, 2, 3, 0, 1, BAD);
        Desk.dueEach("block(.., 1)", x, (y, j) -> y.block(j, 1), 9, 8, 7, 6, 5, 4, BAD);
        FriezeFolk kinds = Desk.told("plain 4;confider 4;child 4;clerk 4;");
        Desk.dueEach("block(.., 0) by names", kinds, (y, j) -> y.block(j, 0), 0, 1, 2, 3, BAD);
        Desk.sentence(0, "ROLLS (4 at most), by order, each of a LENGTH (1 to 9), a PRICE (1 to 9).");
        FriezeFolk z = new FriezeFolk();
        Desk.due("stock(1, 9)", z.stock(1, 9), 1);
        Desk.due("stock(9, 1)", z.stock(9, 1), 2);
        Desk.due("stock(9, 9)", z.stock(9, 9), 3);
        Desk.due("stock(1, 1)", z.stock(1, 1), 4);
        Desk.due("stock(1, 1), the 5th", z.stock(1, 1), FULL);
        Desk.dueEach("roll(.., 0)", z, (y, k) -> y.roll(k, 0), 1, 9, 9, 1, BAD);
        Desk.dueEach("roll(.., 1)", z, (y, k) -> y.roll(k, 1), 9, 1, 9, 1, BAD);
    }

    private static void whoIsThere() {
        Desk.sentence(0, "WHO is at a PLACE: the BLOCK in place (its number and SHIFT) modulo how many BLOCKS there are;"
            + " nobody, if there are none.");
        FriezeFolk x = new FriezeFolk();
        Desk.due("place(0, 0) of nobody", x.place(0, 0), NONE);
        Desk.due("place(11, 0) of nobody", x.place(11, 0), NONE);
        for (int blocks = 1; blocks <= 6; blocks++) {
            x.print(0, 1);
            for (int shift = 0; shift <= 5; shift += 5) {
                x.set(1, shift);
                for (int i = 0; i < 12; i++) {
                    int who = i + shift;
                    while (who >= blocks) {
                        who -= blocks;
                    }
                    Desk.due("place(" + i + ", 0) of " + blocks + " by shift " + shift, x.place(i, 0), who);
                }
            }
        }
    }

    private static void howFrank() {
        Desk.sentence(0, "FRANK at a PLACE, by KIND of who is there: plain WARMTH; confider 3 more than a plain one, if the"
            + " number of the PLACE leaves 2 by 3, else as a plain one; child twice a confider; clerk half of a plain one"
            + " (down); then less by FADE (0 at least); 0 at UPSIDE; 0 for nobody.");
        Desk.due("nobody", new FriezeFolk().place(2, 2), 0);
        int[][] dues = {{0, 0, 0}, {9, 9, 9}, {0, 0, 3}, {9, 9, 12}, {0, 0, 6}, {18, 18, 24}, {0, 0, 0}, {4, 4, 4}};
        for (int kind = 0; kind < 4; kind++) {
            for (int most = 0; most < 2; most++) {
                FriezeFolk x = new FriezeFolk();
                x.print(kind, 9 * most);
                for (int i = 0; i < 12; i++) {
                    int due = dues[2 * kind + most][i % 3];
                    String where = "kind " + kind + ", warmth " + 9 * most + " at " + i;
                    Desk.due(where, x.place(i, 2), due);
                    x.paint(i, due > 0 ? due - 1 : 0);
                    Desk.due(where + ", all but faded", x.place(i, 2), due > 0 ? 1 : 0);
                    x.paint(i, due);
                    Desk.due(where + ", just faded", x.place(i, 2), 0);
                    x.paint(i, 99);
                    Desk.due(where + ", most faded", x.place(i, 2), 0);
                    x.paint(i, 0);
                    x.turn(i);
                    Desk.due(where + ", upside", x.place(i, 2), 0);
                    x.turn(i == 0 ? 11 : i - 1);
                    Desk.due(where + ", another upside", x.place(i, 2), due);
                    x.turn(99);
                }
            }
        }
        FriezeFolk clerk = Desk.told("clerk 1;");
        Desk.due("half of 1", clerk.place(2, 2), 0);
        clerk.alter(0, 1, 2);
        Desk.due("half of 2", clerk.place(2, 2), 1);
        clerk.alter(0, 1, 3);
        Desk.due("half of 3", clerk.place(2, 2), 1);
    }

    private static void rules() {
        Desk.sentence(6, "0 BLOCKS, 1 LONG, 2 SHIFT, 3 WINDOW, 4 REACH, 5 UPSIDE (NONE), 6 YEAR, 7 FRANK of all PLACES,"
            + " 8 ROLLS.");
        Desk.dueEach("rule", new FriezeFolk(), FriezeFolk::rule, 0, 12, 0, 0, 2, NONE, 0, 0, 0);
        FriezeFolk most = Desk.told("child 9;child 9;child 9;child 9;child 9;child 9;wall 12 5;window 11 11;"
            + "roll 1 1;roll 1 1;roll 1 1;roll 1 1;");
        Desk.dueEach("rule", most, FriezeFolk::rule, 6, 12, 5, 11, 11, NONE, 0, 240, 4);
        most.turn(11);
        Desk.dueEach("rule", most, FriezeFolk::rule, 6, 12, 5, 11, 11, 11, 0, 216, 4);
        Desk.due("rule(6) of the last year", CROWDED.make().rule(6), 999);
        FriezeFolk least = Desk.told("plain 9;wall 1 0;window 0 0;upside 0;");
        Desk.dueEach("rule", least, FriezeFolk::rule, 1, 1, 0, 0, 0, 0, 0, 0, 0);
        least.turn(1);
        Desk.due("rule(5) behind the wall", least.rule(5), 1);
        Desk.due("rule(7) of one place", least.rule(7), 9);
        Desk.sentence(6, "BAD.");
        Desk.bad("rule", 0, 8, FriezeFolk::rule);
    }

    private static void ofABlock() {
        Desk.sentence(7, "Of a BLOCK: 0 KIND, 1 WARMTH, 2 PLACES at which it is (bits), 3 FRANK of these.");
        FriezeFolk one = Desk.told("child 9;");
        Desk.dueEach("block(0, ..)", one, (x, what) -> x.block(0, what), 2, 9, 4095, 240, BAD);
        FriezeFolk six = Desk.told(SIX + "wall 1 5;");
        for (int j = 0; j < 6; j++) {
            int at = j;
            Desk.dueEach("block(" + j + ", ..)", six, (x, what) -> x.block(at, what),
                0, j + 1, j == 5 ? 1 : 0, j == 5 ? 6 : 0);
        }
        six.set(0, 12);
        Desk.dueEach("block(.., 2) of twelve", six, (x, j) -> x.block(j, 2),
            2 + 128, 4 + 256, 8 + 512, 16 + 1024, 32 + 2048, 1 + 64, BAD);
        six.turn(11);
        Desk.dueEach("block(4, ..), upside", six, (x, what) -> x.block(4, what), 0, 5, 32 + 2048, 5);
        Desk.sentence(7, "BAD.");
        for (int what = 0; what < 4; what++) {
            int asked = what;
            Desk.bad("block(.., " + what + ")", 0, 5, (x, j) -> x.block(j, asked));
            Desk.still(BARE, "block(0, ..) of none", x -> x.block(0, asked), BAD);
            Desk.still(BUSY, "block(4, ..) of four", x -> x.block(4, asked), BAD);
        }
        Desk.bad("block(0, ..)", 0, 3, (x, what) -> x.block(0, what));
        Desk.still(BUSY, "block(3, 0), the last", x -> x.block(3, 0), 3);
        Desk.still(CROWDED, "block(5, 1), the last", x -> x.block(5, 1), 4);
    }

    private static void ofAPlace() {
        Desk.sentence(8, "Of a PLACE: 0 WHO (NONE: nobody), 1 FADE, 2 FRANK.");
        FriezeFolk x = new FriezeFolk();
        x.paint(11, 99);
        Desk.dueEach("place(11, ..), nobody", x, (y, what) -> y.place(11, what), NONE, 99, 0, BAD);
        Desk.dueEach("place(0, ..), nobody", x, (y, what) -> y.place(0, what), NONE, 0, 0, BAD);
        x.print(2, 9);
        x.paint(11, 23);
        Desk.dueEach("place(11, ..)", x, (y, what) -> y.place(11, what), 0, 23, 1, BAD);
        Desk.sentence(8, "BAD.");
        for (int what = 0; what < 3; what++) {
            int asked = what;
            Desk.bad("place(.., " + what + ")", 0, 11, (y, i) -> y.place(i, asked));
            Desk.still(BUSY, "place(11, ..) of eleven", y -> y.place(11, asked), BAD);
        }
        Desk.bad("place(0, ..)", 0, 2, (y, what) -> y.place(0, what));
        Desk.still(BUSY, "place(10, 1), the last of eleven", y -> y.place(10, 1), 8);
        FriezeFolk one = Desk.told("plain 9;wall 1 0;");
        Desk.due("place(0, 2) of one", one.place(0, 2), 9);
        Desk.due("place(1, 2) of one", one.place(1, 2), BAD);
    }

    private static void ofARoll() {
        Desk.sentence(9, "Of a ROLL: 0 LENGTH, 1 PRICE.");
        FriezeFolk x = Desk.told("roll 1 9;roll 2 8;roll 3 7;roll 9 1;");
        Desk.dueEach("roll(0, ..)", x, (y, what) -> y.roll(0, what), 1, 9, BAD);
        Desk.dueEach("roll(3, ..)", x, (y, what) -> y.roll(3, what), 9, 1, BAD);
        Desk.sentence(9, "BAD.");
        for (int what = 0; what < 2; what++) {
            int asked = what;
            Desk.bad("roll(.., " + what + ")", 0, 3, (y, k) -> y.roll(k, asked));
            Desk.still(BARE, "roll(0, ..) of none", y -> y.roll(0, asked), BAD);
            Desk.still(BUSY, "roll(3, ..) of three", y -> y.roll(3, asked), BAD);
        }
        Desk.bad("roll(0, ..)", 0, 1, (y, what) -> y.roll(0, what));
        Desk.still(BUSY, "roll(2, 1), the last", y -> y.roll(2, 1), 5);
    }

    private static void altered() {
        Desk.sentence(10, "KIND, WARMTH (what 0, 1) of a BLOCK becomes v: what it was.");
        FriezeFolk x = Desk.told("plain 0;clerk 9;");
        int[][] changes = {{0, 0, 3, 0}, {0, 0, 0, 3}, {0, 1, 9, 0}, {0, 1, 0, 9}, {1, 0, 0, 3}, {1, 1, 0, 9}, {1, 1, 0, 0}};
        for (int[] c : changes) {
            Desk.due("alter(" + c[0] + ", " + c[1] + ", " + c[2] + ")", x.alter(c[0], c[1], c[2]), c[3]);
            Desk.due("block(" + c[0] + ", " + c[1] + ")", x.block(c[0], c[1]), c[2]);
        }
        Desk.still(BUSY, "alter(3, 0, ..) and again", y -> y.alter(3, 0, 0) == 3 ? y.alter(3, 0, 3) : BAD, 0);
        Desk.still(CROWDED, "alter(5, 1, ..) and again", y -> y.alter(5, 1, 9) == 4 ? y.alter(5, 1, 4) : BAD, 9);
        Desk.sentence(10, "BAD.");
        Desk.bad("alter(0, 0, ..)", 0, 3, (y, v) -> y.alter(0, 0, v));
        Desk.bad("alter(0, 1, ..)", 0, 9, (y, v) -> y.alter(0, 1, v));
        Desk.bad("alter(0, .., 1)", 0, 1, (y, what) -> y.alter(0, what, 1));
        Desk.bad("alter(.., 0, 1)", 0, 5, (y, j) -> y.alter(j, 0, 1));
        Desk.bad("alter(.., 1, 1)", 0, 5, (y, j) -> y.alter(j, 1, 1));
        Desk.still(BARE, "alter(0, 0, 1) of none", y -> y.alter(0, 0, 1), BAD);
        Desk.still(BUSY, "alter(4, 0, 1) of four", y -> y.alter(4, 0, 1), BAD);
        Desk.still(BUSY, "alter(4, 1, 1) of four", y -> y.alter(4, 1, 1), BAD);
    }

    private static void wallSet() {
        Desk.sentence(11, "LONG, SHIFT, WINDOW, REACH (what 0 to 3) becomes v: what it was.");
        int[] first = {12, 0, 0, 2};
        int[] least = {1, 0, 0, 0};
        int[] most = {12, 5, 11, 11};
        FriezeFolk x = new FriezeFolk();
        for (int what = 0; what < 4; what++) {
            Desk.due("set(" + what + ", least)", x.set(what, least[what]), first[what]);
            Desk.due("rule(" + (what + 1) + ")", x.rule(what + 1), least[what]);
            Desk.due("set(" + what + ", most)", x.set(what, most[what]), least[what]);
            Desk.due("rule(" + (what + 1) + ")", x.rule(what + 1), most[what]);
            Desk.due("set(" + what + ", most) again", x.set(what, most[what]), most[what]);
        }
        for (int what = 0; what < 4; what++) {
            int set = what;
            Desk.stillAlways("set(" + what + ", ..) and back", y -> back(y, set, 4), 4);
            Desk.stillAlways("set(" + what + ", ..) and back", y -> back(y, set, 1), 1);
        }
        Desk.sentence(11, "BAD.");
        for (int what = 0; what < 4; what++) {
            int set = what;
            Desk.bad("set(" + what + ", ..)", least[what], most[what], (y, v) -> y.set(set, v));
        }
        Desk.bad("set(.., 1)", 0, 3, (y, what) -> y.set(what, 1));
    }

    private static int back(FriezeFolk x, int what, int v) {
        int was = x.set(what, v);
        return x.set(what, was);
    }

    private static void turned() {
        Desk.sentence(12, "UPSIDE becomes a PLACE i (0 to 11; 99: none): what it was (NONE).");
        FriezeFolk x = new FriezeFolk();
        Desk.due("turn(99)", x.turn(99), NONE);
        Desk.due("turn(0)", x.turn(0), NONE);
        Desk.due("rule(5)", x.rule(5), 0);
        Desk.due("turn(11)", x.turn(11), 0);
        Desk.due("rule(5)", x.rule(5), 11);
        Desk.due("turn(11) again", x.turn(11), 11);
        Desk.due("turn(99)", x.turn(99), 11);
        Desk.due("rule(5)", x.rule(5), NONE);
        x.set(0, 1);
        Desk.due("turn(11) behind a wall of one", x.turn(11), NONE);
        Desk.due("turn(1) behind a wall of one", x.turn(1), 11);
        Desk.still(BUSY, "turn(..) and back", y -> y.turn(99) == 6 ? y.turn(6) : BAD, NONE);
        Desk.sentence(12, "BAD.");
        Desk.bad("turn", 0, 11, FriezeFolk::turn);
        Desk.bad("turn, but 99", 99, 99, FriezeFolk::turn);
        Desk.stillAlways("turn(NONE)", y -> y.turn(NONE), BAD);
    }

    private static void painted() {
        Desk.sentence(13, "FADE of a PLACE becomes v: what it was.");
        FriezeFolk x = new FriezeFolk();
        for (int i = 0; i < 12; i += 11) {
            Desk.due("paint(" + i + ", 99)", x.paint(i, 99), 0);
            Desk.due("place(" + i + ", 1)", x.place(i, 1), 99);
            Desk.due("paint(" + i + ", 0)", x.paint(i, 0), 99);
            Desk.due("place(" + i + ", 1)", x.place(i, 1), 0);
        }
        Desk.still(BUSY, "paint(10, ..) and again", y -> y.paint(10, 99) == 8 ? y.paint(10, 8) : BAD, 99);
        Desk.sentence(13, "BAD.");
        Desk.bad("paint(0, ..)", 0, 99, (y, v) -> y.paint(0, v));
        Desk.bad("paint(.., 5)", 0, 11, (y, i) -> y.paint(i, 5));
        Desk.still(BUSY, "paint(11, 5) of eleven", y -> y.paint(11, 5), BAD);
        FriezeFolk one = Desk.told("wall 1 0;");
        Desk.due("paint(0, 1) of one", one.paint(0, 1), 0);
        Desk.due("paint(1, 1) of one", one.paint(1, 1), BAD);
    }

    private static void printed() {
        Desk.sentence(14, "A BLOCK more: how many there are.");
        FriezeFolk x = new FriezeFolk();
        int[][] blocks = {{0, 0}, {3, 9}, {0, 9}, {3, 0}, {1, 5}, {2, 4}};
        for (int j = 0; j < 6; j++) {
            Desk.due("print(" + blocks[j][0] + ", " + blocks[j][1] + ")", x.print(blocks[j][0], blocks[j][1]), j + 1);
            Desk.due("rule(0)", x.rule(0), j + 1);
            Desk.due("block(" + j + ", 0)", x.block(j, 0), blocks[j][0]);
            Desk.due("block(" + j + ", 1)", x.block(j, 1), blocks[j][1]);
        }
        FriezeFolk text = Desk.told(SIX);
        Desk.due("print(0, 0) behind six that were told", text.print(0, 0), FULL);
        Desk.due("text() of five", Desk.tell(text, SIX.substring(8)), 5);
        Desk.due("print(0, 0) behind five that were told", text.print(0, 0), 6);
        Desk.sentence(14, "BAD; FULL.");
        Desk.bad("print(.., 0)", 0, 3, (y, kind) -> y.print(kind, 0));
        Desk.bad("print(0, ..)", 0, 9, (y, warmth) -> y.print(0, warmth));
        Desk.still(CROWDED, "print(0, 0), the 7th", y -> y.print(0, 0), FULL);
        Desk.still(CROWDED, "print(3, 9), the 7th", y -> y.print(3, 9), FULL);
    }

    private static void stocked() {
        Desk.sentence(15, "A ROLL more: how many there are.");
        FriezeFolk x = new FriezeFolk();
        int[][] rolls = {{1, 1}, {9, 9}, {1, 9}, {9, 1}};
        for (int k = 0; k < 4; k++) {
            Desk.due("stock(" + rolls[k][0] + ", " + rolls[k][1] + ")", x.stock(rolls[k][0], rolls[k][1]), k + 1);
            Desk.due("rule(8)", x.rule(8), k + 1);
            Desk.due("roll(" + k + ", 0)", x.roll(k, 0), rolls[k][0]);
            Desk.due("roll(" + k + ", 1)", x.roll(k, 1), rolls[k][1]);
        }
        Desk.sentence(15, "BAD; FULL.");
        Desk.bad("stock(.., 1)", 1, 9, (y, length) -> y.stock(length, 1));
        Desk.bad("stock(1, ..)", 1, 9, (y, price) -> y.stock(1, price));
        Desk.still(CROWDED, "stock(1, 1), the 5th", y -> y.stock(1, 1), FULL);
        Desk.still(CROWDED, "stock(9, 9), the 5th", y -> y.stock(9, 9), FULL);
        Desk.due("drop(3)", x.drop(3), 4);
        Desk.due("stock(5, 5), one came free", x.stock(5, 5), 4);
        Desk.due("stock(5, 5), none is free", x.stock(5, 5), FULL);
    }

    private static void dropped() {
        Desk.sentence(16, "ROLLS are the first n alone: how many there were.");
        FriezeFolk x = Desk.told("roll 1 2;roll 3 4;roll 5 6;roll 7 8;");
        Desk.due("drop(4) of four", x.drop(4), 4);
        Desk.due("rule(8)", x.rule(8), 4);
        Desk.due("drop(3) of four", x.drop(3), 4);
        Desk.dueEach("roll(.., 0)", x, (y, k) -> y.roll(k, 0), 1, 3, 5, BAD);
        Desk.due("drop(1) of three", x.drop(1), 3);
        Desk.dueEach("roll(.., 1)", x, (y, k) -> y.roll(k, 1), 2, BAD);
        Desk.due("stock(9, 9)", x.stock(9, 9), 2);
        Desk.dueEach("roll(.., 0)", x, (y, k) -> y.roll(k, 0), 1, 9, BAD);
        Desk.due("drop(0) of two", x.drop(0), 2);
        Desk.due("rule(8)", x.rule(8), 0);
        Desk.due("drop(0) of none", x.drop(0), 0);
        Desk.still(BUSY, "drop(3) of three", y -> y.drop(3), 3);
        FriezeFolk dear = Desk.told("roll 5 5;roll 9 1;");
        Desk.due("cover(9, 0) by both", dear.cover(9, 0), 1);
        Desk.due("drop(1) of two", dear.drop(1), 2);
        Desk.due("cover(9, 0), what is dropped covers nothing", dear.cover(9, 0), 10);
        Desk.due("cover(9, 1)", dear.cover(9, 1), 1);
        Desk.due("most(0, 9)", dear.most(0, 9), 2);
        Desk.sentence(16, "BAD (n above that, too).");
        Desk.bad("drop", 0, 4, FriezeFolk::drop);
        Desk.still(BARE, "drop(1) of none", y -> y.drop(1), BAD);
        Desk.still(BUSY, "drop(4) of three", y -> y.drop(4), BAD);
    }

    public static void main(String[] args) {
        answers();
        numbering();
        atFirst();
        mostThatThereAre();
        whoIsThere();
        howFrank();
        rules();
        ofABlock();
        ofAPlace();
        ofARoll();
        altered();
        wallSet();
        turned();
        painted();
        printed();
        stocked();
        dropped();
        Desk.close();
    }
}
