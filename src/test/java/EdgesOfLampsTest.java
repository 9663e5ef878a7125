/** Promises 29 and 30, fractions: each sentence that names a boundary has a test of its own. */
public final class EdgesOfLampsTest {
    private static final int BAD = Desk.BAD;
    private static final Desk.Start BARE = Desk.Start.BARE, BUSY = Desk.Start.BUSY, CROWDED = Desk.Start.CROWDED;

    private static void luckIs(FriezeFolk x, int v, int a, int b, int w, long numerator, long denominator) {
        String call = "luck(" + v + ", " + a + ", " + b + ", " + w;
        Desk.due(call + ", 0)", x.luck(v, a, b, w, 0), numerator);
        Desk.due(call + ", 1)", x.luck(v, a, b, w, 1), denominator);
    }

    private static void meanIs(FriezeFolk x, int v, int a, int b, long numerator, long denominator) {
        String call = "mean(" + v + ", " + a + ", " + b;
        Desk.due(call + ", 0)", x.mean(v, a, b, 0), numerator);
        Desk.due(call + ", 1)", x.mean(v, a, b, 1), denominator);
    }

    private static void fractions() {
        Desk.sentence(0, "Fractions are in lowest terms, told as two numbers, first the numerator, then the denominator,"
            + " which is above 0 (0 is 0 by 1).");
        FriezeFolk x = Desk.told("plain 5;wall 2 0;");
        luckIs(x, 5, 0, 0, 5, 1, 2);
        luckIs(x, 4, 0, 0, 5, 3, 5);
        luckIs(x, 3, 0, 0, 5, 7, 10);
        luckIs(x, 5, 0, 1, 5, 3, 4);
        luckIs(x, 5, 0, 0, 6, 0, 1);
        luckIs(x, 10, 0, 1, 1, 0, 1);
        luckIs(x, 5, 0, 0, 0, 1, 1);
        meanIs(x, 5, 0, 0, 5, 2);
        meanIs(x, 8, 0, 1, 2, 1);
        meanIs(x, 10, 0, 1, 0, 1);
        meanIs(new FriezeFolk(), 3, 0, 11, 0, 1);
        luckIs(new FriezeFolk(), 3, 0, 11, 1, 0, 1);
        luckIs(new FriezeFolk(), 3, 0, 11, 0, 1, 1);
    }

    private static void lucks() {
        Desk.sentence(29, "At each PLACE a lamp is out by v out of ten (0 to 10), by itself (FRANK is 0 there): that FRANK"
            + " of PLACES a to b (a is b at most) is w (0 to 999) or more: 0, 1.");
        FriezeFolk x = Desk.told("plain 2;plain 3;wall 3 0;");
        for (int w = 0; w <= 7; w++) {
            luckIs(x, 0, 0, 2, w, 1, 1);
            luckIs(x, 10, 0, 2, w, w == 0 ? 1 : 0, 1);
        }
        luckIs(x, 0, 0, 2, 8, 0, 1);
        luckIs(x, 0, 0, 2, 999, 0, 1);
        luckIs(x, 1, 0, 2, 7, 729, 1000);
        luckIs(x, 1, 0, 2, 6, 729, 1000);
        luckIs(x, 1, 0, 2, 5, 9 * 9 * 10 + 9 * 9, 1000);
        luckIs(x, 9, 0, 0, 2, 1, 10);
        luckIs(x, 9, 0, 0, 3, 0, 1);
        luckIs(x, 9, 1, 1, 3, 1, 10);
        luckIs(x, 9, 1, 1, 4, 0, 1);
        luckIs(x, 9, 2, 2, 2, 1, 10);
        luckIs(x, 9, 2, 2, 3, 0, 1);
        luckIs(x, 9, 1, 2, 5, 1, 100);
        FriezeFolk most = Desk.told("child 9;");
        luckIs(most, 1, 0, 11, 240, 282429536481L, 1000000000000L);
        luckIs(most, 1, 0, 11, 241, 0, 1);
        luckIs(most, 9, 0, 11, 240, 1, 1000000000000L);
        luckIs(most, 9, 0, 11, 1, 1000000000000L - 282429536481L, 1000000000000L);
        luckIs(most, 5, 0, 11, 240, 1, 4096);
        luckIs(most, 1, 11, 11, 24, 9, 10);
        luckIs(most, 1, 0, 0, 18, 9, 10);
        luckIs(most, 0, 0, 11, 240, 1, 1);
        Desk.still(BUSY, "luck(3, 0, 10, 20, 0)", y -> y.luck(3, 0, 10, 20, 0), BUSY.make().luck(3, 0, 10, 20, 0));
        Desk.still(CROWDED, "luck(10, 0, 11, 999, 1)", y -> y.luck(10, 0, 11, 999, 1), 1);
    }

    private static void lucksRefused() {
        Desk.sentence(29, "BAD.");
        Desk.bad("luck(.., 0, 0, 0, 0)", 0, 10, (x, v) -> x.luck(v, 0, 0, 0, 0));
        Desk.bad("luck(5, .., 11, 0, 0)", 0, 11, (x, a) -> x.luck(5, a, 11, 0, 0));
        Desk.bad("luck(5, .., 0, 0, 0)", 0, 0, (x, a) -> x.luck(5, a, 0, 0, 0));
        Desk.bad("luck(5, 0, .., 0, 0)", 0, 11, (x, b) -> x.luck(5, 0, b, 0, 0));
        Desk.bad("luck(5, 0, 0, .., 0)", 0, 999, (x, w) -> x.luck(5, 0, 0, w, 0));
        Desk.bad("luck(5, 0, 0, .., 1)", 0, 999, (x, w) -> x.luck(5, 0, 0, w, 1));
        Desk.bad("luck(5, 0, 0, 0, ..)", 0, 1, (x, what) -> x.luck(5, 0, 0, 0, what));
        Desk.stillAlways("luck(5, 6, 5, 0, 0), a above b", x -> x.luck(5, 6, 5, 0, 0), BAD);
        Desk.stillAlways("luck(5, 5, 5, 0, 0), a is b", x -> x.luck(5, 5, 5, 0, 0), 1);
        Desk.still(BUSY, "luck(5, 0, 11, 0, 0) of eleven", x -> x.luck(5, 0, 11, 0, 0), BAD);
        Desk.still(BUSY, "luck(5, 11, 11, 0, 0) of eleven", x -> x.luck(5, 11, 11, 0, 0), BAD);
        Desk.still(BUSY, "luck(5, 10, 10, 0, 0), the last of eleven", x -> x.luck(5, 10, 10, 0, 0), 1);
        FriezeFolk one = Desk.told("plain 1;wall 1 0;");
        luckIs(one, 5, 0, 0, 1, 1, 2);
        luckIs(one, 5, 0, 1, 1, BAD, BAD);
        luckIs(one, 5, 1, 1, 1, BAD, BAD);
    }

    private static void means() {
        Desk.sentence(30, "Likewise, the mean of FRANK of PLACES a to b: 0, 1.");
        FriezeFolk x = Desk.told("plain 2;plain 3;wall 3 0;");
        meanIs(x, 0, 0, 2, 7, 1);
        meanIs(x, 10, 0, 2, 0, 1);
        meanIs(x, 1, 0, 2, 63, 10);
        meanIs(x, 9, 0, 2, 7, 10);
        meanIs(x, 5, 0, 2, 7, 2);
        meanIs(x, 0, 0, 0, 2, 1);
        meanIs(x, 0, 1, 1, 3, 1);
        meanIs(x, 0, 2, 2, 2, 1);
        meanIs(x, 0, 0, 1, 5, 1);
        meanIs(x, 0, 1, 2, 5, 1);
        FriezeFolk most = Desk.told("child 9;");
        meanIs(most, 0, 0, 11, 240, 1);
        meanIs(most, 9, 0, 11, 24, 1);
        meanIs(most, 9, 11, 11, 12, 5);
        Desk.still(BARE, "mean(0, 0, 11, 1) of nobody", y -> y.mean(0, 0, 11, 1), 1);
        Desk.sentence(30, "BAD.");
        Desk.bad("mean(.., 0, 0, 0)", 0, 10, (y, v) -> y.mean(v, 0, 0, 0));
        Desk.bad("mean(5, .., 11, 0)", 0, 11, (y, a) -> y.mean(5, a, 11, 0));
        Desk.bad("mean(5, .., 0, 0)", 0, 0, (y, a) -> y.mean(5, a, 0, 0));
        Desk.bad("mean(5, 0, .., 0)", 0, 11, (y, b) -> y.mean(5, 0, b, 0));
        Desk.bad("mean(5, 0, 0, ..)", 0, 1, (y, what) -> y.mean(5, 0, 0, what));
        Desk.stillAlways("mean(5, 6, 5, 0), a above b", y -> y.mean(5, 6, 5, 0), BAD);
        Desk.stillAlways("mean(10, 5, 5, 1), a is b", y -> y.mean(10, 5, 5, 1), 1);
        Desk.still(BUSY, "mean(5, 0, 11, 0) of eleven", y -> y.mean(5, 0, 11, 0), BAD);
        Desk.still(BUSY, "mean(5, 11, 11, 0) of eleven", y -> y.mean(5, 11, 11, 0), BAD);
        Desk.still(BUSY, "mean(10, 10, 10, 1), the last of eleven", y -> y.mean(10, 10, 10, 1), 1);
    }

    public static void main(String[] args) {
        fractions();
        lucks();
        lucksRefused();
        means();
        Desk.close();
    }
}
