/** Promises 31 to 36, SEEN: each sentence that names a boundary has a test of its own. */
public final class EdgesOfSeenTest {
    private static final int BAD = Desk.BAD, FULL = Desk.FULL, NONE = Desk.NONE;
    private static final Desk.Start BARE = Desk.Start.BARE, BUSY = Desk.Start.BUSY, CROWDED = Desk.Start.CROWDED;
    private static final String RISING = "plain 1;plain 2;plain 3;plain 4;plain 5;plain 6;";

    private static void asItStands() {
        Desk.sentence(0, "SEEN (6): FRANK at a PLACE is v (as it stands when that is asked of, not from see() on).");
        FriezeFolk x = Desk.told("plain 5;wall 1 0;window 0 0;");
        x.see(0, 3);
        Desk.due("shifts() now", x.shifts(), 0);
        Desk.due("warmths(0) now", x.warmths(0), 8);
        x.years(2);
        Desk.due("shifts() two years on", x.shifts(), 63);
        Desk.due("warmths(0) two years on", x.warmths(0), 32);
        x.years(1);
        Desk.due("shifts() three years on", x.shifts(), 0);
        x.paint(0, 2);
        Desk.due("shifts() painted", x.shifts(), 63);
        Desk.due("kinds(0) painted", x.kinds(0), 3);
        x.turn(0);
        Desk.due("shifts() turned", x.shifts(), 0);
        Desk.due("kinds(0) turned", x.kinds(0), 0);
        x.turn(99);
        x.alter(0, 1, 6);
        Desk.due("shifts() altered", x.shifts(), 0);
        Desk.due("count(0)", x.count(0), 1);
    }

    private static void seen() {
        Desk.sentence(31, "SEEN: FRANK at a PLACE i (0 to 11) is v (0 to 99): how many are.");
        FriezeFolk x = new FriezeFolk();
        int[][] all = {{0, 0}, {11, 99}, {0, 99}, {11, 0}, {5, 50}, {5, 50}};
        for (int n = 0; n < 6; n++) {
            Desk.due("see(" + all[n][0] + ", " + all[n][1] + ")", x.see(all[n][0], all[n][1]), n + 1);
            Desk.due("count(0)", x.count(0), n + 1);
        }
        FriezeFolk one = Desk.told("wall 1 0;");
        Desk.due("see(11, 0) behind a wall of one", one.see(11, 0), 1);
        Desk.due("see(1, 0) behind a wall of one", one.see(1, 0), 2);
        Desk.sentence(31, "BAD; FULL.");
        Desk.bad("see(.., 0)", 0, 11, (y, i) -> y.see(i, 0));
        Desk.bad("see(0, ..)", 0, 99, (y, v) -> y.see(0, v));
        Desk.still(CROWDED, "see(0, 0), the 7th", y -> y.see(0, 0), FULL);
        Desk.still(CROWDED, "see(11, 99), the 7th", y -> y.see(11, 99), FULL);
        Desk.due("forget(5)", x.forget(5), 6);
        Desk.due("see(0, 0), one came free", x.see(0, 0), 6);
        Desk.due("see(0, 0), none is free", x.see(0, 0), FULL);
    }

    private static void forgotten() {
        Desk.sentence(32, "SEEN are the first n alone: how many there were.");
        FriezeFolk x = Desk.told(RISING + "wall 6 0;");
        Desk.due("forget(0) of none", x.forget(0), 0);
        x.see(0, 1);
        x.see(0, 2);
        x.see(0, 3);
        Desk.due("forget(3) of three", x.forget(3), 3);
        Desk.due("shifts() of three", x.shifts(), 0);
        Desk.due("forget(1) of three", x.forget(1), 3);
        Desk.due("shifts() of the first", x.shifts(), 1);
        Desk.due("see(1, 2)", x.see(1, 2), 2);
        Desk.due("shifts(), what is forgotten is gone", x.shifts(), 1);
        Desk.due("forget(0) of two", x.forget(0), 2);
        Desk.due("shifts() of none", x.shifts(), 63);
        Desk.due("count(0)", x.count(0), 0);
        Desk.still(BUSY, "forget(2) of two", y -> y.forget(2), 2);
        Desk.still(CROWDED, "forget(6) of six", y -> y.forget(6), 6);
        Desk.sentence(32, "BAD (n above that, too).");
        Desk.bad("forget", 0, 6, FriezeFolk::forget);
        Desk.still(BARE, "forget(1) of none", y -> y.forget(1), BAD);
        Desk.still(BUSY, "forget(3) of two", y -> y.forget(3), BAD);
    }

    private static void kindsOfABlock() {
        Desk.sentence(33, "KINDS of a BLOCK (bits) by which, all else as it is, all is as SEEN (not, if there is no such"
            + " PLACE).");
        FriezeFolk x = Desk.told("plain 4;plain 9;wall 3 0;");
        Desk.due("kinds(0), nothing seen", x.kinds(0), 15);
        Desk.due("kinds(1), nothing seen", x.kinds(1), 15);
        int[][] rows = {{4, 1}, {7, 2}, {14, 4}, {2, 8}, {0, 0}, {99, 0}};
        for (int[] row : rows) {
            x.see(2, row[0]);
            Desk.due("kinds(0), seen " + row[0] + " at 2", x.kinds(0), row[1]);
            x.forget(0);
        }
        x.see(0, 4);
        Desk.due("kinds(0), 4 at 0: plain, confider", x.kinds(0), 3);
        Desk.due("kinds(1), another block is seen", x.kinds(1), 15);
        x.see(1, 8);
        Desk.due("kinds(0), another is not as seen", x.kinds(0), 0);
        x.forget(1);
        x.see(2, 7);
        Desk.due("kinds(0), confider by both", x.kinds(0), 2);
        x.forget(0);
        x.see(3, 0);
        Desk.due("kinds(0), no such place", x.kinds(0), 0);
        x.set(0, 4);
        Desk.due("kinds(0), it is a place now: 9 at 3", x.kinds(0), 0);
        x.turn(3);
        Desk.due("kinds(0), upside there", x.kinds(0), 15);
        x.set(0, 3);
        Desk.due("kinds(0), upside but no place", x.kinds(0), 0);
        Desk.still(BUSY, "kinds(3)", y -> y.kinds(3), BUSY.make().kinds(3));
        Desk.sentence(33, "BAD.");
        Desk.bad("kinds", 0, 5, FriezeFolk::kinds);
        Desk.still(BARE, "kinds(0) of none", y -> y.kinds(0), BAD);
        Desk.still(BUSY, "kinds(4) of four", y -> y.kinds(4), BAD);
        Desk.due("kinds(5), the last", Desk.told(RISING).kinds(5), 15);
    }

    private static void warmthsOfABlock() {
        Desk.sentence(34, "WARMTHS of a BLOCK (bits 0 to 9) by which, all else as it is, all is as SEEN.");
        FriezeFolk x = Desk.told("plain 4;child 9;wall 3 0;");
        Desk.due("warmths(0), nothing seen", x.warmths(0), 1023);
        x.see(0, 0);
        Desk.due("warmths(0), the least", x.warmths(0), 1);
        x.forget(0);
        x.see(0, 9);
        Desk.due("warmths(0), the most", x.warmths(0), 512);
        x.forget(0);
        x.see(0, 10);
        Desk.due("warmths(0), none", x.warmths(0), 0);
        x.forget(0);
        x.paint(0, 5);
        x.see(0, 0);
        Desk.due("warmths(0), all but those above the fade", x.warmths(0), 63);
        x.alter(0, 0, 3);
        Desk.due("warmths(0), half of the most", x.warmths(0), 1023);
        x.paint(0, 4);
        Desk.due("warmths(0), half of the most", x.warmths(0), 1023);
        x.paint(0, 3);
        Desk.due("warmths(0), half of 8 and 9 are too much", x.warmths(0), 255);
        x.forget(0);
        x.see(1, 18);
        Desk.due("warmths(1)", x.warmths(1), 512);
        Desk.due("warmths(0), another block is seen", x.warmths(0), 1023);
        x.see(3, 0);
        Desk.due("warmths(0), no such place", x.warmths(0), 0);
        Desk.due("warmths(1), no such place", x.warmths(1), 0);
        Desk.still(BUSY, "warmths(3)", y -> y.warmths(3), BUSY.make().warmths(3));
        Desk.sentence(34, "BAD.");
        Desk.bad("warmths", 0, 5, FriezeFolk::warmths);
        Desk.still(BARE, "warmths(0) of none", y -> y.warmths(0), BAD);
        Desk.still(BUSY, "warmths(4) of four", y -> y.warmths(4), BAD);
        Desk.due("warmths(5), the last", Desk.told(RISING).warmths(5), 1023);
    }

    private static void shiftsOfAll() {
        Desk.sentence(35, "SHIFTS (bits 0 to 5) by which, all else as it is, all is as SEEN.");
        FriezeFolk x = Desk.told(RISING + "wall 6 3;");
        Desk.due("shifts(), nothing seen", x.shifts(), 63);
        for (int shift = 0; shift <= 5; shift++) {
            x.see(0, shift + 1);
            Desk.due("shifts(), seen " + (shift + 1) + " at 0", x.shifts(), 1 << shift);
            x.forget(0);
        }
        x.see(0, 0);
        Desk.due("shifts(), none", x.shifts(), 0);
        x.forget(0);
        x.see(5, 1);
        Desk.due("shifts(), the last place", x.shifts(), 2);
        x.set(0, 5);
        Desk.due("shifts(), no such place", x.shifts(), 0);
        Desk.still(BARE, "shifts() of nobody", FriezeFolk::shifts, 63);
        FriezeFolk nobody = new FriezeFolk();
        nobody.see(11, 0);
        Desk.due("shifts() of nobody, seen so", nobody.shifts(), 63);
        nobody.see(11, 1);
        Desk.due("shifts() of nobody, seen otherwise", nobody.shifts(), 0);
        Desk.due("shifts() by two blocks", two().shifts(), 1 + 4 + 16);
        Desk.still(BUSY, "shifts()", FriezeFolk::shifts, BUSY.make().shifts());
        Desk.still(CROWDED, "shifts()", FriezeFolk::shifts, CROWDED.make().shifts());
    }

    private static FriezeFolk two() {
        FriezeFolk x = Desk.told("plain 1;plain 2;wall 2 5;");
        x.see(0, 1);
        return x;
    }

    private static void whereToLook() {
        Desk.sentence(36, "The PLACE to look how FRANK it is there, so that of shifts() fewest are left at the worst, fewer"
            + " than now, the first (what 0), how many these are (1).");
        FriezeFolk x = Desk.told(RISING);
        Desk.due("ask(0), the first", x.ask(0), 0);
        Desk.due("ask(1), the fewest there are", x.ask(1), 1);
        for (int i = 0; i < 11; i++) {
            x.paint(i, 99);
            Desk.due("ask(0), " + (i + 1) + " faded", x.ask(0), i + 1);
        }
        Desk.due("ask(1) of the last place", x.ask(1), 1);
        x.paint(11, 4);
        Desk.due("ask(1): 0 four times, 1, 2", x.ask(1), 4);
        x.paint(11, 5);
        Desk.due("ask(1), the most there are", x.ask(1), 5);
        x.paint(10, 4);
        Desk.due("ask(0), one that is better ahead", x.ask(0), 10);
        x.paint(10, 5);
        Desk.due("ask(0), one that is as good ahead", x.ask(0), 10);
        x.paint(10, 99);
        x.paint(11, 4);
        x.see(11, 0);
        Desk.due("shifts(): 4, 3, 2, 1 at 11", Integer.bitCount(x.shifts()), 4);
        Desk.due("ask(0), all that are left are alike there", x.ask(0), NONE);
        x.paint(3, 0);
        Desk.due("ask(0), but not here", x.ask(0), 3);
        Desk.due("ask(1), of four", x.ask(1), 1);
        FriezeFolk pairs = Desk.told("plain 1;plain 1;plain 2;plain 2;plain 3;plain 3;wall 6 4;");
        pairs.see(0, 1);
        Desk.due("shifts()", pairs.shifts(), 3);
        Desk.due("ask(0), those that are not left count for nothing", pairs.ask(0), 1);
        Desk.due("ask(1), those that are not left count for nothing", pairs.ask(1), 1);
        Desk.still(BUSY, "ask(0)", y -> y.ask(0), BUSY.make().ask(0));
        Desk.sentence(36, "BAD; NONE: none.");
        for (int what = 0; what < 2; what++) {
            int asked = what;
            Desk.still(BARE, "ask(" + what + ") of nobody", y -> y.ask(asked), NONE);
            Desk.due("ask(" + what + ") of one", Desk.told("plain 9;").ask(what), NONE);
            Desk.due("ask(" + what + "), none are left", noneLeft().ask(what), NONE);
            for (int shift = 0; shift <= 5; shift++) {
                Desk.due("ask(" + what + "), shift " + shift + " is left", oneLeft(shift).ask(what), NONE);
            }
            Desk.due("ask(" + what + "), that is no place", allFadedButOutside().ask(what), NONE);
        }
        Desk.bad("ask", 0, 1, FriezeFolk::ask);
    }

    private static FriezeFolk noneLeft() {
        FriezeFolk x = Desk.told(RISING);
        x.see(0, 99);
        return x;
    }

    private static FriezeFolk oneLeft(int shift) {
        FriezeFolk x = Desk.told(RISING);
        x.see(0, shift + 1);
        return x;
    }

    private static FriezeFolk allFadedButOutside() {
        FriezeFolk x = Desk.told(RISING + "wall 2 0;");
        x.paint(0, 99);
        x.paint(1, 99);
        return x;
    }

    public static void main(String[] args) {
        asItStands();
        seen();
        forgotten();
        kindsOfABlock();
        warmthsOfABlock();
        shiftsOfAll();
        whereToLook();
        Desk.close();
    }
}
