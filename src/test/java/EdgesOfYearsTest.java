/** Promises 17 to 20 and 37, A YEAR: each sentence that names a boundary has a test of its own. */
public final class EdgesOfYearsTest {
    private static final int BAD = Desk.BAD, FULL = Desk.FULL, NONE = Desk.NONE;
    private static final int LOW = Desk.LOW, HIGH = Desk.HIGH;
    private static final Desk.Start BARE = Desk.Start.BARE, BUSY = Desk.Start.BUSY, CROWDED = Desk.Start.CROWDED;
    private static final String RISING = "plain 1;plain 2;plain 3;plain 4;plain 5;plain 6;";

    private static void aYear() {
        Desk.sentence(0, "A YEAR: each PLACE of THE WALL whose number differs from WINDOW by REACH or less has FADE 1 more"
            + " (99 at most). YEAR is 1 more.");
        for (int window = 0; window <= 11; window++) {
            for (int reach = 0; reach <= 11; reach++) {
                FriezeFolk x = new FriezeFolk();
                x.set(2, window);
                x.set(3, reach);
                x.years(1);
                for (int i = 0; i < 12; i++) {
                    boolean near = i >= window - reach && i <= window + reach;
                    Desk.due("place(" + i + ", 1) by window " + window + ", reach " + reach, x.place(i, 1), near ? 1 : 0);
                }
                Desk.due("rule(6)", x.rule(6), 1);
            }
        }
        FriezeFolk most = Desk.told("window 5 0;");
        most.paint(5, 98);
        most.years(1);
        Desk.due("place(5, 1) of 98", most.place(5, 1), 99);
        most.years(1);
        Desk.due("place(5, 1) of 99", most.place(5, 1), 99);
        most.paint(5, 97);
        most.years(30);
        Desk.due("place(5, 1) of 97 by thirty", most.place(5, 1), 99);
        FriezeFolk cut = Desk.told("wall 6 0;window 6 1;");
        cut.years(1);
        Desk.due("place(5, 1), the last", cut.place(5, 1), 1);
        cut.set(0, 12);
        Desk.due("place(6, 1), no place of the wall", cut.place(6, 1), 0);
        Desk.due("place(7, 1), no place of the wall", cut.place(7, 1), 0);
    }

    private static void yearsRun() {
        Desk.sentence(17, "n YEARS (0 to 30): FRANK of all PLACES then.");
        FriezeFolk x = Desk.told("child 9;window 0 11;");
        Desk.still(BUSY, "years(0)", y -> y.years(0), BUSY.make().rule(7));
        Desk.still(CROWDED, "years(0) of the last year", y -> y.years(0), CROWDED.make().rule(7));
        Desk.due("years(0)", x.years(0), 240);
        Desk.due("years(1)", x.years(1), 228);
        Desk.due("years(17): 6 at each third place", x.years(17), 24);
        Desk.due("years(6)", x.years(6), 0);
        Desk.due("years(30)", x.years(30), 0);
        Desk.due("rule(6)", x.rule(6), 54);
        Desk.due("place(11, 1)", x.place(11, 1), 54);
        Desk.due("years(30) of nobody", new FriezeFolk().years(30), 0);
        Desk.sentence(17, "BAD; FULL: YEAR would be 1000 or more.");
        Desk.bad("years", 0, 30, FriezeFolk::years);
        Desk.still(CROWDED, "years(1) of 999", y -> y.years(1), FULL);
        Desk.still(CROWDED, "years(30) of 999", y -> y.years(30), FULL);
        FriezeFolk late = CROWDED.make();
        late.back(0);
        Desk.due("rule(6)", late.rule(6), 990);
        Desk.due("years(10) of 990", late.years(10), FULL);
        Desk.due("years(30) of 990", late.years(30), FULL);
        Desk.due("rule(6) is as it was", late.rule(6), 990);
        Desk.due("years(9) of 990 is taken", late.years(9) < 0 ? 1 : 0, 0);
        Desk.due("rule(6)", late.rule(6), 999);
        FriezeFolk most = CROWDED.make();
        most.end(0);
        Desk.due("text() begins the years again", most.text(), 0);
        Desk.due("years(30)", most.years(30), 0);
        Desk.due("rule(6)", most.rule(6), 30);
    }

    private static void yearsAhead() {
        Desk.sentence(0, "BY YEARS: as it would be from now on. FRANK of several PLACES is summed.");
        Desk.still(CROWDED, "runs(60, 0) beyond the last year", y -> y.runs(60, 0), 0);
        Desk.still(CROWDED, "ahead(2, 60) beyond the last year", y -> y.ahead(2, 60), 0);
        Desk.still(CROWDED, "fades(2) beyond the last year", y -> y.fades(2), CROWDED.make().place(2, 2));
        FriezeFolk x = Desk.told("plain 9;wall 3 0;window 0 0;");
        x.years(4);
        Desk.due("runs(2, 0) from now on", x.runs(2, 0), 3 + 9 + 9);
        Desk.due("ahead(0, 2) from now on", x.ahead(0, 2), 3);
        Desk.due("fades(0) from now on", x.fades(0), 5);
        Desk.sentence(18, "BY YEARS, n of them (0 to 60): FRANK of all PLACES then (what 0), PLACES at which it is 0 then"
            + " (1; bits), the PLACE at which it is greatest then, the first (2), how great (3).");
        FriezeFolk y = Desk.told("child 9;window 11 0;");
        Desk.dueEach("runs(0, ..)", y, (z, what) -> z.runs(0, what), 240, 0, 2, 24, BAD);
        Desk.dueEach("runs(23, ..)", y, (z, what) -> z.runs(23, what), 217, 0, 2, 24, BAD);
        Desk.dueEach("runs(24, ..)", y, (z, what) -> z.runs(24, what), 216, 2048, 2, 24, BAD);
        Desk.dueEach("runs(60, ..)", y, (z, what) -> z.runs(60, what), 216, 2048, 2, 24, BAD);
        y.set(3, 11);
        Desk.dueEach("runs(60, ..) of all", y, (z, what) -> z.runs(60, what), 0, 4095, 0, 0, BAD);
        Desk.dueEach("runs(0, ..) of nobody", new FriezeFolk(), (z, what) -> z.runs(0, what), 0, 4095, 0, 0, BAD);
        FriezeFolk last = Desk.told(RISING + "wall 6 0;window 0 0;");
        Desk.dueEach("runs(1, ..), the last place", last, (z, what) -> z.runs(1, what), 20, 1, 5, 6, BAD);
        FriezeFolk one = Desk.told("plain 9;wall 1 0;upside 0;");
        Desk.dueEach("runs(0, ..) of one, upside", one, (z, what) -> z.runs(0, what), 0, 1, 0, 0, BAD);
        FriezeFolk first = Desk.told("plain 9;wall 3 0;window 0 0;");
        Desk.dueEach("runs(0, ..), the first", first, (z, what) -> z.runs(0, what), 27, 0, 0, 9, BAD);
        Desk.dueEach("runs(1, ..), the first", first, (z, what) -> z.runs(1, what), 26, 0, 1, 9, BAD);
        Desk.still(BUSY, "runs(60, 0) changes nothing", z -> z.runs(60, 0), BUSY.make().runs(60, 0));
        Desk.sentence(18, "BAD.");
        for (int what = 0; what < 4; what++) {
            int asked = what;
            Desk.bad("runs(.., " + what + ")", 0, 60, (z, n) -> z.runs(n, asked));
        }
        Desk.bad("runs(0, ..)", 0, 3, (z, what) -> z.runs(0, what));
    }

    private static void frankAhead() {
        Desk.sentence(19, "BY YEARS, n of them (0 to 60): FRANK at a PLACE then.");
        FriezeFolk x = Desk.told("child 9;window 11 0;");
        Desk.due("ahead(11, 0)", x.ahead(11, 0), 24);
        Desk.due("ahead(11, 23)", x.ahead(11, 23), 1);
        Desk.due("ahead(11, 24)", x.ahead(11, 24), 0);
        Desk.due("ahead(11, 60)", x.ahead(11, 60), 0);
        Desk.due("ahead(10, 60), out of reach", x.ahead(10, 60), 18);
        Desk.due("ahead(0, 60), out of reach", x.ahead(0, 60), 18);
        x.turn(10);
        Desk.due("ahead(10, 0), upside", x.ahead(10, 0), 0);
        Desk.due("ahead(0, 0) of nobody", new FriezeFolk().ahead(0, 0), 0);
        Desk.still(BUSY, "ahead(3, 60) changes nothing", z -> z.ahead(3, 60), 0);
        Desk.sentence(19, "BAD.");
        Desk.bad("ahead(0, ..)", 0, 60, (z, n) -> z.ahead(0, n));
        Desk.bad("ahead(.., 0)", 0, 11, (z, i) -> z.ahead(i, 0));
        Desk.still(BUSY, "ahead(11, 0) of eleven", z -> z.ahead(11, 0), BAD);
        Desk.still(BUSY, "ahead(10, 0), the last of eleven", z -> z.ahead(10, 0), BUSY.make().place(10, 2));
    }

    private static void faded() {
        Desk.sentence(20, "BY YEARS: behind how many (0 to 60) FRANK at a PLACE is 0 first.");
        FriezeFolk x = Desk.told("child 9;window 11 0;upside 3;");
        Desk.due("fades(3), upside", x.fades(3), 0);
        Desk.due("fades(11), the longest there is", x.fades(11), 24);
        x.paint(11, 23);
        Desk.due("fades(11), all but faded", x.fades(11), 1);
        x.paint(11, 24);
        Desk.due("fades(11), faded", x.fades(11), 0);
        x.paint(11, 99);
        Desk.due("fades(11), most faded", x.fades(11), 0);
        Desk.due("fades(0) of nobody", new FriezeFolk().fades(0), 0);
        Desk.due("fades(0) of warmth 0", Desk.told("plain 0;").fades(0), 0);
        Desk.still(BUSY, "fades(9)", z -> z.fades(9), NONE);
        Desk.sentence(20, "BAD; NONE: behind none.");
        Desk.due("fades(10), out of reach", x.fades(10), NONE);
        x.set(3, 1);
        Desk.due("fades(10), just within reach", x.fades(10), 18);
        Desk.due("fades(9), just out of reach", x.fades(9), NONE);
        Desk.bad("fades", 0, 11, FriezeFolk::fades);
        Desk.still(BUSY, "fades(11) of eleven", z -> z.fades(11), BAD);
    }

    /** The seed that becomes that number, by the inverse of the factor modulo two to the 32nd. */
    private static int seedOf(int next) {
        int factor = 1103515245;
        int inverse = factor;
        for (int step = 0; step < 5; step++) {
            inverse *= 2 - factor * inverse;
        }
        return (next - 12345) * inverse;
    }

    private static void drifted() {
        Desk.sentence(37, "By itself (as it would be; nothing is changed), n YEARS (1 to 60) by a seed:");
        Desk.still(BUSY, "drift(5, 1, 0)", x -> x.drift(5, 1, 0), BUSY.make().drift(5, 1, 1));
        Desk.still(BUSY, "drift(5, 60, 1)", x -> x.drift(5, 60, 1), BUSY.make().drift(5, 60, 1));
        Desk.still(CROWDED, "drift(5, 60, 1), beyond the last year", x -> x.drift(5, 60, 1), 0);
        Desk.still(BARE, "drift(0, 60, 0) of nobody", x -> x.drift(0, 60, 0), 0);
        FriezeFolk all = Desk.told("child 9;window 0 11;");
        Desk.due("drift(9, 1, 0)", all.drift(9, 1, 0), 228);
        Desk.due("drift(9, 1, 1)", all.drift(9, 1, 1), 228);
        Desk.due("drift(9, 60, 0): 8 times 17 .. 1, 4 times 23 .. 1", all.drift(9, 60, 0), 8 * 153 + 4 * 276);
        Desk.due("drift(9, 60, 1)", all.drift(9, 60, 1), 0);
        Desk.due("drift(9, 2, 0)", all.drift(9, 2, 0), 228 + 216);
        Desk.due("drift(9, 2, 1)", all.drift(9, 2, 1), 216);
    }

    private static void seedBecomes() {
        Desk.sentence(37, "ahead of each the seed becomes seed times 1103515245 and 12345; bits 16 to 30 of it are got:"
            + " SHIFT is got modulo 6, WINDOW is got by 8 (down) modulo 12:");
        int[] gots = {0, 1, 5, 6, 7, 8, 11, 12, 87, 88, 95, 96, 97, 103, 104, 32766, 32767};
        int[] shifts = {0, 1, 5, 0, 1, 2, 5, 0, 3, 4, 5, 0, 1, 1, 2, 0, 1};
        int[] windows = {0, 0, 0, 0, 0, 1, 1, 1, 10, 11, 11, 0, 0, 0, 1, 3, 3};
        for (int n = 0; n < gots.length; n++) {
            for (int rest : new int[] {0, 0x0000FFFF, 0x80000000, 0x8000FFFF}) {
                got(gots[n], seedOf(gots[n] << 16 | rest), shifts[n], windows[n]);
            }
        }
        FriezeFolk x = Desk.told(RISING + "wall 1 3;window 9 0;");
        Desk.due("drift(0, 1, 0): 12345, of which 0 is got", x.drift(0, 1, 0), 0);
        Desk.due("drift(-1, 1, 0)", x.drift(-1, 1, 0), byHand(-1));
        Desk.due("drift(1, 1, 0)", x.drift(1, 1, 0), byHand(1));
        Desk.due("drift(HIGH, 1, 0)", x.drift(HIGH, 1, 0), byHand(HIGH));
        Desk.due("drift(LOW, 1, 0)", x.drift(LOW, 1, 0), byHand(LOW));
        int second = seedOf(seedOf(5 << 16));
        Desk.due("drift by two steps, behind the last", x.drift(second, 2, 1),
            5 + 1 - 1 - (windowOf(seedOf(5 << 16)) == 0 ? 1 : 0));
    }

    /** Six by their warmths tell the shift at place 0, one at each place by itself tells the window. */
    private static void got(int got, int seed, int shift, int window) {
        FriezeFolk x = Desk.told(RISING + "wall 1 0;window 0 0;");
        int due = Math.max(0, shift + 1 - (window == 0 ? 1 : 0));
        Desk.due("drift by got " + got + ", the shift", x.drift(seed, 1, 0), due);
        FriezeFolk y = Desk.told("plain 9;window 0 0;");
        for (int i = 0; i < 12; i++) {
            y.paint(i, 99);
        }
        for (int i = 0; i < 12; i++) {
            y.paint(i, 0);
            Desk.due("drift by got " + got + ", the window at " + i, y.drift(seed, 1, 1), i == window ? 8 : 9);
            y.paint(i, 99);
        }
    }

    private static int gotOf(long next) {
        return (int) (Math.floorMod(next, 4294967296L) / 65536 % 32768);
    }

    private static int windowOf(int next) {
        return gotOf(next) / 8 % 12;
    }

    /** By longs in place of the wrap-around of ints. */
    private static int byHand(int seed) {
        int got = gotOf(seed * 1103515245L + 12345L);
        return got % 6 + 1 - (got / 8 % 12 == 0 ? 1 : 0);
    }

    private static void driftAnswers() {
        Desk.sentence(37, "FRANK of all PLACES behind each, summed (what 0), behind the last one (1).");
        FriezeFolk x = Desk.told("plain 3;wall 1 0;window 0 11;");
        int[] sums = {2, 3, 3, 3};
        int[] lasts = {2, 1, 0, 0};
        for (int n = 1; n <= 4; n++) {
            Desk.due("drift(7, " + n + ", 0)", x.drift(7, n, 0), sums[n - 1]);
            Desk.due("drift(7, " + n + ", 1)", x.drift(7, n, 1), lasts[n - 1]);
        }
        Desk.sentence(37, "BAD.");
        Desk.bad("drift(1, .., 0)", 1, 60, (z, n) -> z.drift(1, n, 0));
        Desk.bad("drift(1, .., 1)", 1, 60, (z, n) -> z.drift(1, n, 1));
        Desk.bad("drift(1, 1, ..)", 0, 1, (z, what) -> z.drift(1, 1, what));
    }

    public static void main(String[] args) {
        aYear();
        yearsRun();
        yearsAhead();
        frankAhead();
        faded();
        drifted();
        seedBecomes();
        driftAnswers();
        Desk.close();
    }
}
