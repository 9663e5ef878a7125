/** Promises 21 to 28, TO COVER: each sentence that names a boundary has a test of its own. */
public final class EdgesOfBestTest {
    private static final int BAD = Desk.BAD, STATE = Desk.STATE, NONE = Desk.NONE;
    private static final Desk.Start BARE = Desk.Start.BARE, BUSY = Desk.Start.BUSY, CROWDED = Desk.Start.CROWDED;
    private static final String RISING = "plain 1;plain 2;plain 3;plain 4;plain 5;plain 6;";

    private static void stretches() {
        Desk.sentence(21, "The PLACE from which on n PLACES (1 to LONG), one behind another, have most FRANK, of several"
            + " the first (what 0), how much (1).");
        FriezeFolk x = Desk.told(RISING + "wall 6 0;");
        int[] sums = {6, 11, 15, 18, 20, 21};
        for (int n = 1; n <= 6; n++) {
            Desk.due("stretch(" + n + ", 0), the last there is", x.stretch(n, 0), 6 - n);
            Desk.due("stretch(" + n + ", 1)", x.stretch(n, 1), sums[n - 1]);
        }
        FriezeFolk even = Desk.told("plain 1;");
        for (int n = 1; n <= 12; n++) {
            Desk.due("stretch(" + n + ", 0), the first", even.stretch(n, 0), 0);
            Desk.due("stretch(" + n + ", 1)", even.stretch(n, 1), n);
        }
        even.paint(0, 1);
        Desk.due("stretch(3, 0) from 1 on", even.stretch(3, 0), 1);
        Desk.due("stretch(11, 0) from 1 on", even.stretch(11, 0), 1);
        Desk.due("stretch(12, 1)", even.stretch(12, 1), 11);
        Desk.still(BARE, "stretch(1, 0) of nobody", y -> y.stretch(1, 0), 0);
        Desk.still(BARE, "stretch(12, 1) of nobody", y -> y.stretch(12, 1), 0);
        FriezeFolk one = Desk.told("plain 9;wall 1 0;");
        Desk.due("stretch(1, 0) of one", one.stretch(1, 0), 0);
        Desk.due("stretch(1, 1) of one", one.stretch(1, 1), 9);
        Desk.sentence(21, "BAD.");
        Desk.due("stretch(2, 1) of one", one.stretch(2, 1), BAD);
        Desk.due("stretch(0, 1) of one", one.stretch(0, 1), BAD);
        Desk.bad("stretch(.., 0)", 1, 12, (y, n) -> y.stretch(n, 0));
        Desk.bad("stretch(.., 1)", 1, 12, (y, n) -> y.stretch(n, 1));
        Desk.bad("stretch(1, ..)", 0, 1, (y, what) -> y.stretch(1, what));
        Desk.still(BUSY, "stretch(12, 0) of eleven", y -> y.stretch(12, 0), BAD);
        Desk.still(BUSY, "stretch(11, 0) of eleven", y -> y.stretch(11, 0), 0);
    }

    private static void hangings() {
        Desk.sentence(22, "The SHIFT by which FRANK of all PLACES is most, of several the first (what 0), how much (1).");
        FriezeFolk x = Desk.told(RISING + "wall 1 2;");
        Desk.due("hang(0), the last there is", x.hang(0), 5);
        Desk.due("hang(1)", x.hang(1), 6);
        x.alter(0, 1, 6);
        Desk.due("hang(0), the first of several", x.hang(0), 0);
        x.alter(0, 1, 0);
        x.alter(4, 1, 6);
        Desk.due("hang(0), the first of several", x.hang(0), 4);
        Desk.due("hang(0), all alike", Desk.told("plain 9;wall 12 5;").hang(0), 0);
        Desk.due("hang(1), all alike", Desk.told("plain 9;wall 12 5;").hang(1), 108);
        Desk.still(BARE, "hang(0) of nobody", y -> y.hang(0), 0);
        Desk.still(BARE, "hang(1) of nobody", y -> y.hang(1), 0);
        Desk.still(BUSY, "hang(0)", y -> y.hang(0), BUSY.make().hang(0));
        FriezeFolk faded = Desk.told(RISING + "wall 1 0;");
        faded.paint(0, 99);
        Desk.due("hang(0), all faded", faded.hang(0), 0);
        Desk.due("hang(1), all faded", faded.hang(1), 0);
        Desk.sentence(22, "BAD.");
        Desk.bad("hang", 0, 1, FriezeFolk::hang);
    }

    private static void shades() {
        Desk.sentence(23, "The WINDOW by which FRANK of all PLACES is most behind n YEARS (0 to 60), of several the first"
            + " (what 0), how much (1).");
        FriezeFolk x = Desk.told("plain 9;wall 1 0;window 3 10;");
        Desk.due("shade(0, 0), all alike", x.shade(0, 0), 0);
        Desk.due("shade(0, 1)", x.shade(0, 1), 9);
        Desk.due("shade(1, 0), the last there is", x.shade(1, 0), 11);
        Desk.due("shade(1, 1)", x.shade(1, 1), 9);
        Desk.due("shade(60, 0)", x.shade(60, 0), 11);
        Desk.due("shade(60, 1)", x.shade(60, 1), 9);
        x.set(3, 9);
        Desk.due("shade(1, 0), the first of several", x.shade(1, 0), 10);
        x.set(3, 11);
        Desk.due("shade(1, 0), none is better", x.shade(1, 0), 0);
        Desk.due("shade(8, 1)", x.shade(8, 1), 1);
        Desk.due("shade(9, 1)", x.shade(9, 1), 0);
        Desk.due("shade(60, 1)", x.shade(60, 1), 0);
        Desk.still(BARE, "shade(60, 0) of nobody", y -> y.shade(60, 0), 0);
        Desk.still(CROWDED, "shade(60, 1) beyond the last year", y -> y.shade(60, 1), 0);
        Desk.still(BUSY, "shade(60, 0)", y -> y.shade(60, 0), BUSY.make().shade(60, 0));
        Desk.sentence(23, "BAD.");
        Desk.bad("shade(.., 0)", 0, 60, (y, n) -> y.shade(n, 0));
        Desk.bad("shade(.., 1)", 0, 60, (y, n) -> y.shade(n, 1));
        Desk.bad("shade(0, ..)", 0, 1, (y, what) -> y.shade(0, what));
    }

    private static void swaps() {
        Desk.sentence(24, "Two BLOCKS that are to be changed with each other so that FRANK of all PLACES is most, more than"
            + " as it is: 10 times the lesser and the greater, of several the least (what 0), how much (1).");
        FriezeFolk first = Desk.told("plain 1;plain 2;wall 1 0;");
        Desk.due("swap(0), the least there is", first.swap(0), 1);
        Desk.due("swap(1)", first.swap(1), 2);
        FriezeFolk last = Desk.told("plain 2;plain 2;plain 2;plain 2;plain 1;plain 2;wall 5 0;");
        Desk.due("swap(0), the greatest there is", last.swap(0), 45);
        Desk.due("swap(1)", last.swap(1), 10);
        FriezeFolk several = Desk.told("plain 1;plain 1;plain 2;plain 2;wall 2 0;");
        Desk.due("swap(0), 2, 3, 12, 13 are as good", several.swap(0), 2);
        FriezeFolk later = Desk.told("plain 9;plain 1;plain 3;plain 5;plain 5;wall 2 0;");
        Desk.due("swap(0), 13 and 14 are as good, 12 is less", later.swap(0), 13);
        Desk.due("swap(1)", later.swap(1), 14);
        Desk.due("swap(0) by the place of the confider", Desk.told("confider 1;plain 1;wall 3 0;").swap(0), NONE);
        Desk.due("swap(0) by the place of the confider", Desk.told("plain 1;confider 1;wall 3 0;").swap(0), 1);
        FriezeFolk both = Desk.told("clerk 9;child 1;wall 3 0;");
        Desk.due("swap(0), kind and warmth of both: 2, 4, 8 for 4, 2, 4", both.swap(0), 1);
        Desk.due("swap(1)", both.swap(1), 14);
        Desk.still(BUSY, "swap(0)", x -> x.swap(0), BUSY.make().swap(0));
        Desk.sentence(24, "BAD; NONE: by none.");
        for (int what = 0; what < 2; what++) {
            int asked = what;
            Desk.still(BARE, "swap(" + what + ") of nobody", x -> x.swap(asked), NONE);
            Desk.due("swap(" + what + ") of one", Desk.told("plain 9;").swap(what), NONE);
            Desk.due("swap(" + what + "), as much as it is", Desk.told("plain 9;plain 9;wall 1 0;").swap(what), NONE);
            Desk.due("swap(" + what + "), all are there", Desk.told("plain 1;plain 9;wall 2 0;").swap(what), NONE);
            Desk.due("swap(" + what + "), less by each", Desk.told("plain 9;plain 8;wall 1 0;").swap(what), NONE);
        }
        Desk.bad("swap", 0, 1, FriezeFolk::swap);
    }

    private static void periods() {
        Desk.sentence(25, "The least p (1 to LONG) by which THE WALL repeats: at each PLACE there is the same KIND of the"
            + " same WARMTH as p PLACES on, if that is a PLACE, too.");
        FriezeFolk x = Desk.told(RISING);
        for (int wide = 1; wide <= 12; wide++) {
            x.set(0, wide);
            Desk.due("period() of six on " + wide, x.period(), Math.min(6, wide));
        }
        Desk.due("period() of one on twelve", Desk.told("plain 1;").period(), 1);
        Desk.due("period() of one on one", Desk.told("plain 1;wall 1 0;").period(), 1);
        Desk.due("period(), another at the last place", Desk.told("plain 1;plain 1;plain 2;wall 3 0;").period(), 3);
        Desk.due("period(), it is no place", Desk.told("plain 1;plain 1;plain 2;wall 2 0;").period(), 1);
        Desk.due("period() by the kind", Desk.told("plain 1;confider 1;wall 2 0;").period(), 2);
        Desk.due("period() by the warmth", Desk.told("clerk 2;clerk 3;wall 2 0;").period(), 2);
        Desk.due("period(), as frank but another", Desk.told("plain 2;confider 2;wall 2 0;").period(), 2);
        Desk.due("period(), neither is the same", Desk.told("plain 1;confider 0;wall 2 0;").period(), 2);
        Desk.due("period() by shift", Desk.told("plain 2;plain 1;plain 1;plain 1;plain 1;wall 4 1;").period(), 1);
        FriezeFolk faded = Desk.told("plain 1;upside 3;");
        faded.paint(5, 9);
        Desk.due("period(), whatever is faded or upside", faded.period(), 1);
        Desk.sentence(25, "STATE: there are no BLOCKS.");
        Desk.still(BARE, "period() of nobody", FriezeFolk::period, STATE);
        Desk.still(BUSY, "period()", FriezeFolk::period, 4);
    }

    private static void alikes() {
        Desk.sentence(26, "By how many SHIFTS (0 to 5) there is the same KIND of the same WARMTH at each PLACE as now.");
        int[] dues = {6, 3, 2, 2, 2, 1};
        FriezeFolk x = new FriezeFolk();
        for (int blocks = 1; blocks <= 6; blocks++) {
            x.print(0, blocks);
            x.set(1, 0);
            Desk.due("alike() of " + blocks, x.alike(), dues[blocks - 1]);
        }
        for (int shift = 0; shift <= 5; shift++) {
            x.set(1, shift);
            Desk.due("alike() of six by " + shift, x.alike(), 1);
        }
        FriezeFolk four = Desk.told("plain 1;plain 2;plain 3;plain 4;wall 12 1;");
        Desk.due("alike() of four by 1: 1 and 5", four.alike(), 2);
        four.set(1, 2);
        Desk.due("alike() of four by 2: 2 alone", four.alike(), 1);
        FriezeFolk five = Desk.told("plain 1;plain 2;plain 3;plain 4;plain 5;wall 12 5;");
        Desk.due("alike() of five by 5: 0 and 5", five.alike(), 2);
        five.set(1, 4);
        Desk.due("alike() of five by 4: 4 alone", five.alike(), 1);
        Desk.due("alike() on one place", Desk.told("plain 1;plain 1;plain 1;plain 1;plain 1;plain 2;wall 1 0;").alike(), 5);
        Desk.due("alike() by the kind", Desk.told("plain 1;clerk 1;").alike(), 3);
        Desk.due("alike(), neither is the same", Desk.told("plain 1;confider 0;").alike(), 3);
        Desk.due("alike() of like ones", Desk.told("child 1;child 1;child 1;").alike(), 6);
        Desk.sentence(26, "STATE: there are no BLOCKS.");
        Desk.still(BARE, "alike() of nobody", FriezeFolk::alike, STATE);
        Desk.still(BUSY, "alike()", FriezeFolk::alike, 1);
    }

    private static void covers() {
        Desk.sentence(0, "TO COVER n PLACES: any many of each ROLL, LENGTHS n or more together; LEFT is what they are more.");
        FriezeFolk ones = Desk.told("roll 1 9;");
        Desk.due("cover(60, 0) by sixty", ones.cover(60, 0), 540);
        Desk.due("cover(60, 1)", ones.cover(60, 1), 0);
        FriezeFolk nines = Desk.told("roll 9 1;");
        Desk.due("cover(9, 0), just so", nines.cover(9, 0), 1);
        Desk.due("cover(9, 1)", nines.cover(9, 1), 0);
        Desk.due("cover(10, 0), one more", nines.cover(10, 0), 2);
        Desk.due("cover(10, 1), most that is left", nines.cover(10, 1), 8);
        Desk.due("cover(55, 1), most that is left", nines.cover(55, 1), 8);
        Desk.due("cover(60, 0)", nines.cover(60, 0), 7);
        Desk.due("cover(60, 1)", nines.cover(60, 1), 3);
        Desk.sentence(27, "TO COVER n PLACES (0 to 60): the least PRICE (what 0), the least LEFT by that PRICE (1).");
        for (Desk.Start start : Desk.Start.values()) {
            Desk.still(start, "cover(0, 0)", x -> x.cover(0, 0), 0);
            Desk.still(start, "cover(0, 1)", x -> x.cover(0, 1), 0);
        }
        FriezeFolk more = Desk.told("roll 9 3;roll 8 3;roll 7 3;roll 1 9;");
        Desk.due("cover(1, 0)", more.cover(1, 0), 3);
        Desk.due("cover(1, 1), the least left of three", more.cover(1, 1), 6);
        Desk.due("cover(8, 1)", more.cover(8, 1), 0);
        Desk.due("cover(9, 1)", more.cover(9, 1), 0);
        Desk.due("cover(10, 0)", more.cover(10, 0), 6);
        Desk.due("cover(10, 1)", more.cover(10, 1), 4);
        FriezeFolk cheap = Desk.told("roll 1 2;roll 9 1;");
        Desk.due("cover(1, 0), the longer is cheaper", cheap.cover(1, 0), 1);
        Desk.due("cover(1, 1)", cheap.cover(1, 1), 8);
        Desk.due("cover(10, 0), two long ones", cheap.cover(10, 0), 2);
        Desk.due("cover(10, 1)", cheap.cover(10, 1), 8);
        Desk.still(CROWDED, "cover(60, 0)", x -> x.cover(60, 0), CROWDED.make().cover(60, 0));
        Desk.sentence(27, "BAD; NONE: there are no ROLLS, and n is above 0.");
        for (int what = 0; what < 2; what++) {
            int asked = what;
            Desk.still(BARE, "cover(1, " + what + ")", x -> x.cover(1, asked), NONE);
            Desk.still(BARE, "cover(60, " + what + ")", x -> x.cover(60, asked), NONE);
            Desk.bad("cover(.., " + what + ")", 0, 60, (x, n) -> x.cover(n, asked));
        }
        Desk.bad("cover(0, ..)", 0, 1, (x, what) -> x.cover(0, what));
        Desk.bad("cover(1, ..)", 0, 1, (x, what) -> x.cover(1, what));
        nines.drop(0);
        Desk.due("cover(1, 0), all dropped", nines.cover(1, 0), NONE);
        Desk.due("cover(0, 0), all dropped", nines.cover(0, 0), 0);
    }

    private static void mosts() {
        Desk.sentence(28, "How many of a ROLL are the most that can be among those that COVER n PLACES (0 to 60) by the"
            + " least PRICE.");
        FriezeFolk x = Desk.told("roll 1 1;roll 2 2;roll 3 3;roll 9 9;");
        int[] dues = {60, 30, 20, 6};
        for (int k = 0; k < 4; k++) {
            Desk.due("most(" + k + ", 60)", x.most(k, 60), dues[k]);
            Desk.due("most(" + k + ", 0)", x.most(k, 0), 0);
            Desk.due("most(" + k + ", 1)", x.most(k, 1), k == 0 ? 1 : 0);
        }
        Desk.due("most(3, 8), it would be dearer", x.most(3, 8), 0);
        Desk.due("most(3, 9), just so", x.most(3, 9), 1);
        FriezeFolk twins = Desk.told("roll 4 2;roll 4 2;roll 3 2;roll 5 2;");
        for (int k = 0; k < 4; k++) {
            Desk.due("most(" + k + ", 6)", twins.most(k, 6), 2);
            Desk.due("most(" + k + ", 3), whatever is left", twins.most(k, 3), 1);
        }
        Desk.due("most(2, 7), 3 and 3 are too short", twins.most(2, 7), 1);
        Desk.due("most(2, 9), 3 and 5 are too short", twins.most(2, 9), 0);
        Desk.due("most(3, 10), just so", twins.most(3, 10), 2);
        Desk.due("most(0, 10), 4 and 5 are too short", twins.most(0, 10), 0);
        Desk.still(BUSY, "most(2, 60)", y -> y.most(2, 60), BUSY.make().most(2, 60));
        Desk.sentence(28, "BAD.");
        Desk.bad("most(0, ..)", 0, 60, (y, n) -> y.most(0, n));
        Desk.bad("most(.., 0)", 0, 3, (y, k) -> y.most(k, 0));
        Desk.still(BARE, "most(0, 0) of none", y -> y.most(0, 0), BAD);
        Desk.still(BARE, "most(0, 1) of none", y -> y.most(0, 1), BAD);
        Desk.still(BUSY, "most(3, 1) of three", y -> y.most(3, 1), BAD);
        Desk.still(CROWDED, "most(3, 0), the last", y -> y.most(3, 0), 0);
    }

    public static void main(String[] args) {
        stretches();
        hangings();
        shades();
        swaps();
        periods();
        alikes();
        covers();
        mosts();
        Desk.close();
    }
}
