/** Each promise of the document by answers reckoned by hand: ordinary inputs, edges, wrong inputs. */
public final class PromisesTest {
    private static final int BAD = -1, STATE = -2, FULL = -3, NONE = -4;
    private static final int LOW = Integer.MIN_VALUE, HIGH = Integer.MAX_VALUE;
    private static final String ALL = "plain 5;confider 4;child 7;clerk 9;wall 11 2;window 3 2;upside 6;roll 5 3;roll 3 2;roll 9 5;";

    private static int wrong = 0;

    private static void due(int promise, String call, long got, long want) {
        if (got != want) {
            wrong++;
            System.out.println("promise " + promise + ": " + call + " answered " + got + ", due is " + want);
        }
    }

    private static FriezeFolk told(String text) {
        FriezeFolk x = new FriezeFolk();
        tell(x, text);
        int lines = x.text();
        due(4, "text of '" + text + "'", Math.min(lines, 0), 0);
        return x;
    }

    private static void tell(FriezeFolk x, String text) {
        for (int i = 0; i < text.length(); i++) {
            due(2, "feed at " + i, x.feed(text.charAt(i)), i + 1);
        }
    }

    private static void refused(String text, int fault, int at) {
        FriezeFolk x = told(ALL);
        x.see(1, 1);
        x.keep(1);
        tell(x, text);
        due(4, "text of '" + text + "'", x.text(), -10 - at);
        due(5, "fault of '" + text + "'", x.fault(), fault);
        due(4, "the tape behind '" + text + "'", x.count(2), 0);
        due(4, "blocks behind '" + text + "'", x.rule(0), 4);
        due(4, "frank behind '" + text + "'", x.rule(7), 78);
        due(4, "seen behind '" + text + "'", x.count(0), 1);
        due(4, "images behind '" + text + "'", x.count(1), 1);
    }

    private static void newObject() {
        FriezeFolk x = new FriezeFolk();
        int[] rules = {0, 12, 0, 0, 2, NONE, 0, 0, 0};
        for (int what = 0; what < rules.length; what++) {
            due(1, "rule(" + what + ")", x.rule(what), rules[what]);
        }
        for (int i = 0; i < 12; i++) {
            due(1, "place(" + i + ", 0)", x.place(i, 0), NONE);
            due(1, "place(" + i + ", 1)", x.place(i, 1), 0);
            due(1, "place(" + i + ", 2)", x.place(i, 2), 0);
        }
        for (int k = 0; k < 4; k++) {
            due(1, "lay(" + k + ", 0, 0)", x.lay(k, 0, 0), -11);
        }
        int[] counts = {0, 0, 0, NONE, 0, 0};
        for (int what = 0; what < counts.length; what++) {
            due(1, "count(" + what + ")", x.count(what), counts[what]);
        }
        due(1, "fault()", x.fault(), 0);
        due(1, "torn()", x.torn(), 0);
        due(1, "back(0)", x.back(0), STATE);
    }

    private static void feedAndEnd() {
        FriezeFolk x = new FriezeFolk();
        due(2, "feed(-1)", x.feed(-1), BAD);
        due(2, "feed(128)", x.feed(128), BAD);
        due(2, "feed(LOW)", x.feed(LOW), BAD);
        due(2, "feed(HIGH)", x.feed(HIGH), BAD);
        due(2, "feed(0)", x.feed(0), 1);
        due(2, "feed(127)", x.feed(127), 2);
        for (int n = 3; n <= 160; n++) {
            due(2, "feed(32)", x.feed(32), n);
        }
        due(2, "feed(32) on a full tape", x.feed(32), FULL);
        due(2, "feed(200) on a full tape", x.feed(200), BAD);
        due(2, "count(2)", x.count(2), 160);
        due(3, "end(161)", x.end(161), BAD);
        due(3, "end(-1)", x.end(-1), BAD);
        due(3, "end(160)", x.end(160), 160);
        due(3, "end(7)", x.end(7), 160);
        due(3, "end(8)", x.end(8), BAD);
        due(3, "count(2)", x.count(2), 7);
        due(3, "end(0)", x.end(0), 7);
        due(3, "end(0)", x.end(0), 0);
        tell(x, "plain 5;wall");
        due(3, "end(8)", x.end(8), 12);
        due(3, "text()", x.text(), 1);
        due(3, "block(0, 1)", x.block(0, 1), 5);
    }

    private static void textTaken() {
        FriezeFolk x = told(ALL);
        due(4, "rule(7)", x.rule(7), 78);
        x.years(3);
        x.see(0, 1);
        x.keep(0);
        x.keep(1);
        x.sheet(0, 0, 3);
        x.paint(10, 9);
        tell(x, "clerk9;wall12 3;");
        due(4, "text()", x.text(), 2);
        due(5, "fault()", x.fault(), 0);
        int[] rules = {1, 12, 3, 0, 2, NONE, 0, 48, 0};
        for (int what = 0; what < rules.length; what++) {
            due(4, "rule(" + what + ")", x.rule(what), rules[what]);
        }
        int[] counts = {0, 0, 0, 3, 9, 0};
        for (int what = 0; what < counts.length; what++) {
            due(4, "count(" + what + ")", x.count(what), counts[what]);
        }
        due(4, "back(0)", x.back(0), STATE);
        due(4, "empty text()", x.text(), 0);
        due(4, "rule(0)", x.rule(0), 0);
        tell(x, "   ");
        due(4, "text() of blanks", x.text(), 0);
        tell(x, "  upside 11 ;  window 11 0;plain 00;child09 ;roll 9 1; ");
        due(4, "text() with blanks", x.text(), 5);
        due(4, "rule(3)", x.rule(3), 11);
        due(4, "rule(4)", x.rule(4), 0);
        due(4, "rule(5)", x.rule(5), 11);
        due(4, "block(1, 1)", x.block(1, 1), 9);
        due(4, "six blocks", told("plain 1;plain 2;plain 3;plain 4;plain 5;plain 6;").rule(0), 6);
        due(4, "four rolls", told("roll 1 1;roll 2 2;roll 3 3;roll 9 9;").rule(8), 4);
        FriezeFolk least = told("plain 0;confider 0;child 0;clerk 0;wall 1 0;window 0 0;upside 0;");
        due(4, "least numbers", least.rule(0), 4);
        FriezeFolk most = told("plain 9;confider 9;child 9;clerk 9;wall 12 5;window 11 11;upside 11;");
        due(4, "most numbers", most.count(4), 36);
        tell(most, "plain 1;");
        due(4, "text() behind a shift", most.text(), 1);
        due(4, "rule(2)", most.rule(2), 0);
    }

    private static void textRefused() {
        refused("plain 1#;", 1, 7);
        refused("\tplain 1;", 1, 0);
        refused("plain 100;", 1, 6);
        refused("wall 1 001;", 1, 7);
        refused("123", 1, 0);
        refused("Plain 1;", 1, 0);
        refused("plaiN 1;", 2, 0);
        refused("bishop 1;", 2, 0);
        refused("plainwall 1;", 2, 0);
        refused("plai 1;", 2, 0);
        refused("plains 1;", 2, 0);
        refused("plainz 1;", 2, 0);
        refused("xlain 1;", 2, 0);
        refused(";", 2, 0);
        refused("5;", 2, 0);
        refused("plain 1;;", 2, 8);
        refused("plain", 2, 5);
        refused("plain  ", 2, 7);
        refused("plain 1", 2, 7);
        refused("wall 1 ", 2, 7);
        refused("plain;", 2, 5);
        refused("plain wall 1 1;", 2, 6);
        refused("plain 1 1;", 2, 8);
        refused("upside 1 1;", 2, 9);
        refused("wall 1;", 2, 6);
        refused("plain 1 plain 1;", 2, 8);
        refused("plain 10;", 3, 6);
        refused("confider 10;", 3, 9);
        refused("child 10;", 3, 6);
        refused("clerk 99;", 3, 6);
        refused("wall 0 #", 3, 5);
        refused("wall 13 0;", 3, 5);
        refused("wall 1 6;", 3, 7);
        refused("window 12 0;", 3, 7);
        refused("window 0 12;", 3, 9);
        refused("upside 12;", 3, 7);
        refused("upside 99;", 3, 7);
        refused("roll 0 1;", 3, 5);
        refused("roll 10 1;", 3, 5);
        refused("roll 1 0;", 3, 7);
        refused("roll 1 10;", 3, 7);
        refused("wall 1 1;wall#", 4, 9);
        refused("window 1 1;window 99 1;", 4, 11);
        refused("upside 1; upside 1;", 4, 10);
        refused("child 1;plain 1;clerk 1;child 1;confider 1;child 1;plain#", 5, 51);
        refused("roll 1 1;roll 1 1;roll 1 1;roll 1 1;roll", 5, 36);
        FriezeFolk x = new FriezeFolk();
        tell(x, "x");
        due(5, "text()", x.text(), -10);
        due(5, "fault()", x.fault(), 2);
        due(5, "text()", x.text(), 0);
        due(5, "fault()", x.fault(), 0);
    }

    private static void whatThereIs() {
        FriezeFolk x = told(ALL);
        int[] rules = {4, 11, 2, 3, 2, 6, 0, 78, 3};
        for (int what = 0; what < rules.length; what++) {
            due(6, "rule(" + what + ")", x.rule(what), rules[what]);
        }
        due(6, "rule(9)", x.rule(9), BAD);
        due(6, "rule(-1)", x.rule(-1), BAD);
        due(6, "rule(LOW)", x.rule(LOW), BAD);
        int[][] blocks = {{0, 5, 1092, 10}, {1, 4, 136, 8}, {2, 7, 273, 48}, {3, 9, 546, 12}};
        for (int j = 0; j < 4; j++) {
            for (int what = 0; what < 4; what++) {
                due(7, "block(" + j + ", " + what + ")", x.block(j, what), blocks[j][what]);
            }
            due(7, "block(j, 4)", x.block(j, 4), BAD);
            due(7, "block(j, -1)", x.block(j, -1), BAD);
        }
        due(7, "block(4, 0)", x.block(4, 0), BAD);
        due(7, "block(-1, 0)", x.block(-1, 0), BAD);
        due(7, "block(HIGH, 0)", x.block(HIGH, 0), BAD);
        x.paint(8, 3);
        due(8, "place(8, 0)", x.place(8, 0), 2);
        due(8, "place(8, 1)", x.place(8, 1), 3);
        due(8, "place(8, 2)", x.place(8, 2), 17);
        due(8, "place(6, 2), upside", x.place(6, 2), 0);
        due(8, "place(1, 2), clerk", x.place(1, 2), 4);
        due(8, "place(3, 2), confider at no third", x.place(3, 2), 4);
        due(8, "place(10, 2)", x.place(10, 2), 5);
        due(8, "place(11, 0)", x.place(11, 0), BAD);
        due(8, "place(-1, 0)", x.place(-1, 0), BAD);
        due(8, "place(0, 3)", x.place(0, 3), BAD);
        due(8, "place(0, -1)", x.place(0, -1), BAD);
        x.paint(0, 99);
        due(8, "place(0, 2), all faded", x.place(0, 2), 0);
        FriezeFolk y = told("confider 4;");
        due(8, "place(2, 2), confider at a third", y.place(2, 2), 7);
        due(8, "place(11, 2)", y.place(11, 2), 7);
        due(8, "place(10, 2)", y.place(10, 2), 4);
        due(9, "roll(0, 0)", x.roll(0, 0), 5);
        due(9, "roll(0, 1)", x.roll(0, 1), 3);
        due(9, "roll(2, 0)", x.roll(2, 0), 9);
        due(9, "roll(3, 0)", x.roll(3, 0), BAD);
        due(9, "roll(-1, 0)", x.roll(-1, 0), BAD);
        due(9, "roll(0, 2)", x.roll(0, 2), BAD);
        due(9, "roll(0, -1)", x.roll(0, -1), BAD);
    }

    private static void blocksChanged() {
        FriezeFolk x = told("plain 5;child 7;");
        due(10, "alter(0, 0, 3)", x.alter(0, 0, 3), 0);
        due(10, "alter(0, 1, 9)", x.alter(0, 1, 9), 5);
        due(10, "alter(1, 1, 0)", x.alter(1, 1, 0), 7);
        due(10, "alter(0, 0, 4)", x.alter(0, 0, 4), BAD);
        due(10, "alter(0, 0, -1)", x.alter(0, 0, -1), BAD);
        due(10, "alter(0, 1, 10)", x.alter(0, 1, 10), BAD);
        due(10, "alter(0, 1, -1)", x.alter(0, 1, -1), BAD);
        due(10, "alter(0, 2, 0)", x.alter(0, 2, 0), BAD);
        due(10, "alter(0, -1, 0)", x.alter(0, -1, 0), BAD);
        due(10, "alter(2, 0, 0)", x.alter(2, 0, 0), BAD);
        due(10, "alter(-1, 0, 0)", x.alter(-1, 0, 0), BAD);
        due(10, "block(0, 0)", x.block(0, 0), 3);
        due(10, "block(0, 1)", x.block(0, 1), 9);
        due(10, "block(1, 0)", x.block(1, 0), 2);
        due(10, "block(1, 1)", x.block(1, 1), 0);
        due(14, "print(4, 0)", x.print(4, 0), BAD);
        due(14, "print(-1, 0)", x.print(-1, 0), BAD);
        due(14, "print(0, 10)", x.print(0, 10), BAD);
        due(14, "print(0, -1)", x.print(0, -1), BAD);
        due(14, "print(3, 9)", x.print(3, 9), 3);
        due(14, "print(0, 0)", x.print(0, 0), 4);
        due(14, "print(1, 2)", x.print(1, 2), 5);
        due(14, "print(2, 1)", x.print(2, 1), 6);
        due(14, "print(2, 1)", x.print(2, 1), FULL);
        due(14, "print(2, 10) when full", x.print(2, 10), BAD);
        due(14, "block(2, 0)", x.block(2, 0), 3);
        due(14, "block(2, 1)", x.block(2, 1), 9);
        due(14, "block(5, 0)", x.block(5, 0), 2);
    }

    private static void wallChanged() {
        FriezeFolk x = told(ALL);
        int[] was = {11, 2, 3, 2};
        int[] least = {1, 0, 0, 0};
        int[] most = {12, 5, 11, 11};
        for (int what = 0; what < 4; what++) {
            due(11, "set(" + what + ", least)", x.set(what, least[what]), was[what]);
            due(11, "set(" + what + ", most)", x.set(what, most[what]), least[what]);
            due(11, "set(" + what + ", too little)", x.set(what, least[what] - 1), BAD);
            due(11, "set(" + what + ", too much)", x.set(what, most[what] + 1), BAD);
            due(11, "rule(" + (what + 1) + ")", x.rule(what + 1), most[what]);
        }
        due(11, "set(4, 1)", x.set(4, 1), BAD);
        due(11, "set(-1, 1)", x.set(-1, 1), BAD);
        due(12, "turn(11)", x.turn(11), 6);
        due(12, "turn(0)", x.turn(0), 11);
        due(12, "turn(12)", x.turn(12), BAD);
        due(12, "turn(-1)", x.turn(-1), BAD);
        due(12, "turn(98)", x.turn(98), BAD);
        due(12, "turn(-4)", x.turn(-4), BAD);
        due(12, "rule(5)", x.rule(5), 0);
        due(12, "turn(99)", x.turn(99), 0);
        due(12, "turn(99)", x.turn(99), NONE);
        due(12, "rule(5)", x.rule(5), NONE);
        x.set(0, 3);
        due(12, "turn(11) behind the wall", x.turn(11), NONE);
        x.set(0, 12);
        due(13, "paint(11, 99)", x.paint(11, 99), 0);
        due(13, "paint(11, 5)", x.paint(11, 5), 99);
        due(13, "paint(11, 100)", x.paint(11, 100), BAD);
        due(13, "paint(11, -1)", x.paint(11, -1), BAD);
        due(13, "paint(11, 0)", x.paint(11, 0), 5);
        due(13, "paint(11, 5)", x.paint(11, 5), 0);
        due(13, "paint(-1, 1)", x.paint(-1, 1), BAD);
        due(13, "paint(12, 1)", x.paint(12, 1), BAD);
        x.set(0, 4);
        due(13, "paint(4, 1)", x.paint(4, 1), BAD);
        due(13, "count(5)", x.count(5), 0);
        x.set(0, 12);
        due(13, "place(11, 1) is kept", x.place(11, 1), 5);
    }

    private static void rollsChanged() {
        FriezeFolk x = new FriezeFolk();
        due(15, "stock(0, 1)", x.stock(0, 1), BAD);
        due(15, "stock(10, 1)", x.stock(10, 1), BAD);
        due(15, "stock(1, 0)", x.stock(1, 0), BAD);
        due(15, "stock(1, 10)", x.stock(1, 10), BAD);
        due(15, "stock(1, 9)", x.stock(1, 9), 1);
        due(15, "stock(9, 1)", x.stock(9, 1), 2);
        due(15, "stock(2, 3)", x.stock(2, 3), 3);
        due(15, "stock(4, 5)", x.stock(4, 5), 4);
        due(15, "stock(4, 5)", x.stock(4, 5), FULL);
        due(15, "stock(0, 5) when full", x.stock(0, 5), BAD);
        due(15, "roll(1, 0)", x.roll(1, 0), 9);
        due(15, "roll(3, 1)", x.roll(3, 1), 5);
        due(16, "drop(5)", x.drop(5), BAD);
        due(16, "drop(-1)", x.drop(-1), BAD);
        due(16, "drop(4)", x.drop(4), 4);
        due(16, "drop(2)", x.drop(2), 4);
        due(16, "drop(3)", x.drop(3), BAD);
        due(16, "roll(1, 0)", x.roll(1, 0), 9);
        due(16, "roll(2, 0)", x.roll(2, 0), BAD);
        due(16, "stock(7, 8)", x.stock(7, 8), 3);
        due(16, "roll(2, 0)", x.roll(2, 0), 7);
        due(16, "drop(0)", x.drop(0), 3);
        due(16, "rule(8)", x.rule(8), 0);
    }

    private static void yearsRun() {
        FriezeFolk x = told("plain 9;wall 5 0;window 4 1;");
        due(17, "years(-1)", x.years(-1), BAD);
        due(17, "years(31)", x.years(31), BAD);
        due(17, "years(0)", x.years(0), 45);
        due(17, "years(2)", x.years(2), 41);
        due(17, "place(2, 1)", x.place(2, 1), 0);
        due(17, "place(3, 1)", x.place(3, 1), 2);
        due(17, "place(4, 1)", x.place(4, 1), 2);
        due(17, "rule(6)", x.rule(6), 2);
        x.set(0, 6);
        due(17, "place(5, 1) was not there", x.place(5, 1), 0);
        due(17, "years(30)", x.years(30), 27);
        for (int i = 0; i < 32; i++) {
            x.years(30);
        }
        due(17, "rule(6)", x.rule(6), 992);
        due(17, "place(4, 1)", x.place(4, 1), 99);
        due(17, "years(8)", x.years(8), FULL);
        due(17, "years(31) late", x.years(31), BAD);
        due(17, "years(7)", x.years(7), 27);
        due(17, "years(0)", x.years(0), 27);
        due(17, "years(1)", x.years(1), FULL);
        due(17, "rule(6)", x.rule(6), 999);
        due(18, "runs(60, 0) goes beyond", x.runs(60, 0), 27);
    }

    private static void yearsAhead() {
        FriezeFolk x = told(ALL);
        int[][] rows = {{0, 78, 64, 8, 20}, {1, 73, 64, 8, 20}, {5, 56, 110, 8, 20}, {60, 47, 126, 8, 20}};
        for (int[] row : rows) {
            for (int what = 0; what < 4; what++) {
                due(18, "runs(" + row[0] + ", " + what + ")", x.runs(row[0], what), row[what + 1]);
            }
        }
        due(18, "runs(61, 0)", x.runs(61, 0), BAD);
        due(18, "runs(-1, 0)", x.runs(-1, 0), BAD);
        due(18, "runs(0, 4)", x.runs(0, 4), BAD);
        due(18, "runs(0, -1)", x.runs(0, -1), BAD);
        due(18, "rule(6) is left alone", x.rule(6), 0);
        due(18, "rule(7) is left alone", x.rule(7), 78);
        FriezeFolk y = told("plain 9;wall 4 0;window 0 0;");
        due(18, "runs(0, 2), the first", y.runs(0, 2), 0);
        due(18, "runs(1, 2)", y.runs(1, 2), 1);
        due(18, "runs(9, 1)", y.runs(9, 1), 1);
        due(19, "ahead(0, 8)", y.ahead(0, 8), 1);
        due(19, "ahead(0, 0)", y.ahead(0, 0), 9);
        due(19, "ahead(0, 60)", y.ahead(0, 60), 0);
        due(19, "ahead(1, 60)", y.ahead(1, 60), 9);
        due(19, "ahead(0, 61)", y.ahead(0, 61), BAD);
        due(19, "ahead(0, -1)", y.ahead(0, -1), BAD);
        due(19, "ahead(4, 0)", y.ahead(4, 0), BAD);
        due(19, "ahead(-1, 0)", y.ahead(-1, 0), BAD);
        due(20, "fades(0)", y.fades(0), 9);
        due(20, "fades(1)", y.fades(1), NONE);
        due(20, "fades(4)", y.fades(4), BAD);
        due(20, "fades(-1)", y.fades(-1), BAD);
        y.turn(1);
        due(20, "fades(1), upside", y.fades(1), 0);
        y.paint(0, 3);
        due(20, "fades(0)", y.fades(0), 6);
        due(20, "rule(6) is left alone", y.rule(6), 0);
        due(20, "place(0, 1) is left alone", y.place(0, 1), 3);
    }

    private static void best() {
        FriezeFolk x = told(ALL);
        due(21, "stretch(1, 0)", x.stretch(1, 0), 8);
        due(21, "stretch(6, 0)", x.stretch(6, 0), 3);
        due(21, "stretch(6, 1)", x.stretch(6, 1), 46);
        due(21, "stretch(11, 0)", x.stretch(11, 0), 0);
        due(21, "stretch(11, 1)", x.stretch(11, 1), 78);
        due(21, "stretch(12, 1)", x.stretch(12, 1), BAD);
        due(21, "stretch(0, 1)", x.stretch(0, 1), BAD);
        due(21, "stretch(1, 2)", x.stretch(1, 2), BAD);
        due(21, "stretch(1, -1)", x.stretch(1, -1), BAD);
        due(21, "stretch(2, 0), the first", told("plain 1;").stretch(2, 0), 0);
        FriezeFolk rising = told("plain 1;plain 2;plain 3;wall 3 0;");
        due(21, "stretch(2, 0), the last", rising.stretch(2, 0), 1);
        due(21, "stretch(2, 1), the last", rising.stretch(2, 1), 5);
        due(22, "hang(0)", x.hang(0), 1);
        due(22, "hang(1)", x.hang(1), 81);
        due(22, "hang(2)", x.hang(2), BAD);
        due(22, "hang(-1)", x.hang(-1), BAD);
        due(22, "rule(2) is left alone", x.rule(2), 2);
        FriezeFolk five = told("plain 0;plain 0;plain 0;plain 0;plain 0;plain 9;wall 1 0;");
        due(22, "hang(0), the last", five.hang(0), 5);
        five.alter(0, 1, 9);
        due(22, "hang(0), the first", five.hang(0), 0);
        due(23, "shade(0, 0)", x.shade(0, 0), 0);
        due(23, "shade(6, 0)", x.shade(6, 0), 11);
        due(23, "shade(60, 1)", x.shade(60, 1), 69);
        due(23, "shade(61, 1)", x.shade(61, 1), BAD);
        due(23, "shade(-1, 1)", x.shade(-1, 1), BAD);
        due(23, "shade(1, 2)", x.shade(1, 2), BAD);
        due(23, "rule(3) is left alone", x.rule(3), 3);
        due(24, "swap(0)", x.swap(0), 1);
        due(24, "swap(1)", x.swap(1), 81);
        due(24, "swap(2)", x.swap(2), BAD);
        due(24, "swap(-1)", x.swap(-1), BAD);
        due(24, "block(0, 0) is left alone", x.block(0, 0), 0);
        FriezeFolk three = told("plain 1;plain 2;plain 9;plain 9;wall 1 0;");
        due(24, "swap(0), of several", three.swap(0), 2);
        due(24, "swap(1), of several", three.swap(1), 9);
        FriezeFolk later = told("plain 9;plain 2;plain 1;plain 5;wall 3 0;");
        due(24, "swap(0), two behind", later.swap(0), 23);
        due(24, "swap(1), two behind", later.swap(1), 16);
        due(24, "swap(0), none", told("plain 9;plain 2;wall 1 0;").swap(0), NONE);
        due(24, "swap(1), none", told("plain 9;plain 2;wall 1 0;").swap(1), NONE);
        due(24, "swap(0), one block", told("plain 9;").swap(0), NONE);
    }

    private static void repeats() {
        due(25, "period()", told(ALL).period(), 4);
        due(25, "period() of one block", told("plain 1;").period(), 1);
        due(25, "period() by warmth", told("plain 1;plain 1;plain 2;").period(), 3);
        due(25, "period() by kind", told("plain 1;clerk 1;").period(), 2);
        due(25, "period() by both", told("plain 2;confider 1;").period(), 2);
        due(25, "period(), another only behind the wall", told("plain 1;plain 1;plain 2;wall 2 0;").period(), 1);
        due(25, "period() of like blocks", told("plain 1;clerk 1;plain 1;clerk 1;").period(), 2);
        due(25, "period() of a short wall", told("plain 1;plain 2;plain 3;wall 2 0;").period(), 2);
        due(25, "period() of one place", told("plain 1;plain 2;wall 1 0;").period(), 1);
        due(25, "period() that is cut", told("plain 1;plain 2;plain 2;plain 1;wall 6 0;").period(), 4);
        due(25, "period() of nobody", new FriezeFolk().period(), STATE);
        due(26, "alike()", told(ALL).alike(), 1);
        due(26, "alike() of one block", told("plain 1;").alike(), 6);
        due(26, "alike() of two", told("plain 1;clerk 1;").alike(), 3);
        due(26, "alike() of two shifted", told("plain 1;clerk 1;wall 12 5;").alike(), 3);
        due(26, "alike() of five", told("plain 1;plain 2;plain 3;plain 4;plain 5;").alike(), 2);
        due(26, "alike() on one place", told("plain 1;plain 1;plain 3;plain 4;wall 1 0;").alike(), 4);
        due(26, "alike() of nobody", new FriezeFolk().alike(), STATE);
    }

    private static void rollsCover() {
        FriezeFolk x = told(ALL);
        int[][] rows = {{0, 0, 0}, {1, 2, 2}, {4, 3, 1}, {7, 5, 1}, {10, 6, 0}, {13, 8, 0}, {22, 13, 0}};
        for (int[] row : rows) {
            due(27, "cover(" + row[0] + ", 0)", x.cover(row[0], 0), row[1]);
            due(27, "cover(" + row[0] + ", 1)", x.cover(row[0], 1), row[2]);
        }
        due(27, "cover(61, 0)", x.cover(61, 0), BAD);
        due(27, "cover(-1, 0)", x.cover(-1, 0), BAD);
        due(27, "cover(1, 2)", x.cover(1, 2), BAD);
        FriezeFolk none = new FriezeFolk();
        due(27, "cover(0, 0) without rolls", none.cover(0, 0), 0);
        due(27, "cover(0, 1) without rolls", none.cover(0, 1), 0);
        due(27, "cover(1, 1) without rolls", none.cover(1, 1), NONE);
        due(27, "cover(61, 1) without rolls", none.cover(61, 1), BAD);
        FriezeFolk dear = told("roll 1 9;");
        due(27, "cover(60, 0)", dear.cover(60, 0), 540);
        due(27, "cover(60, 1)", dear.cover(60, 1), 0);
        FriezeFolk left = told("roll 9 1;");
        due(27, "cover(55, 0)", left.cover(55, 0), 7);
        due(27, "cover(55, 1)", left.cover(55, 1), 8);
        due(28, "most(0, 60)", dear.most(0, 60), 60);
        due(28, "most(1, 60)", dear.most(1, 60), BAD);
        due(28, "most(-1, 60)", dear.most(-1, 60), BAD);
        due(28, "most(0, 61)", dear.most(0, 61), BAD);
        due(28, "most(0, -1)", dear.most(0, -1), BAD);
        due(28, "most(0, 0)", dear.most(0, 0), 0);
        due(28, "most(0, 0) without rolls", none.most(0, 0), BAD);
        FriezeFolk alike = told("roll 2 1;roll 2 1;roll 4 2;roll 1 9;");
        due(28, "most(0, 7)", alike.most(0, 7), 4);
        due(28, "most(1, 7)", alike.most(1, 7), 4);
        due(28, "most(2, 7)", alike.most(2, 7), 2);
        due(28, "most(3, 7)", alike.most(3, 7), 0);
        due(28, "most(0, 1)", alike.most(0, 1), 1);
        FriezeFolk longer = told("roll 3 2;roll 4 2;");
        due(28, "most(1, 3) with more left", longer.most(1, 3), 1);
        due(28, "most(0, 3)", longer.most(0, 3), 1);
    }

    private static void lampsOut() {
        FriezeFolk x = told("plain 5;wall 3 0;");
        due(29, "luck(5, 0, 2, 10, 0)", x.luck(5, 0, 2, 10, 0), 1);
        due(29, "luck(5, 0, 2, 10, 1)", x.luck(5, 0, 2, 10, 1), 2);
        due(29, "luck(1, 1, 2, 10, 0)", x.luck(1, 1, 2, 10, 0), 81);
        due(29, "luck(1, 1, 2, 10, 1)", x.luck(1, 1, 2, 10, 1), 100);
        due(29, "luck(1, 0, 2, 0, 0)", x.luck(1, 0, 2, 0, 0), 1);
        due(29, "luck(1, 0, 2, 0, 1)", x.luck(1, 0, 2, 0, 1), 1);
        due(29, "luck(1, 0, 2, 16, 0)", x.luck(1, 0, 2, 16, 0), 0);
        due(29, "luck(1, 0, 2, 16, 1)", x.luck(1, 0, 2, 16, 1), 1);
        due(29, "luck(1, 0, 2, 999, 0)", x.luck(1, 0, 2, 999, 0), 0);
        due(29, "luck(0, 0, 2, 15, 0)", x.luck(0, 0, 2, 15, 0), 1);
        due(29, "luck(10, 0, 2, 1, 0)", x.luck(10, 0, 2, 1, 0), 0);
        due(29, "luck(10, 2, 2, 0, 1)", x.luck(10, 2, 2, 0, 1), 1);
        due(29, "luck(-1, ..)", x.luck(-1, 0, 2, 1, 0), BAD);
        due(29, "luck(11, ..)", x.luck(11, 0, 2, 1, 0), BAD);
        due(29, "luck(1, 2, 1, ..)", x.luck(1, 2, 1, 1, 0), BAD);
        due(29, "luck(1, -1, 1, ..)", x.luck(1, -1, 1, 1, 0), BAD);
        due(29, "luck(1, 0, 3, ..)", x.luck(1, 0, 3, 1, 0), BAD);
        due(29, "luck(.., -1, 0)", x.luck(1, 0, 2, -1, 0), BAD);
        due(29, "luck(.., 1000, 0)", x.luck(1, 0, 2, 1000, 0), BAD);
        due(29, "luck(.., 1, 2)", x.luck(1, 0, 2, 1, 2), BAD);
        due(29, "luck(.., 1, -1)", x.luck(1, 0, 2, 1, -1), BAD);
        FriezeFolk full = told("child 9;");
        due(29, "luck of all twelve lit", full.luck(1, 0, 11, 240, 0), 282429536481L);
        due(29, "luck of all twelve lit", full.luck(1, 0, 11, 240, 1), 1000000000000L);
        due(30, "mean(5, 0, 2, 0)", x.mean(5, 0, 2, 0), 15);
        due(30, "mean(5, 0, 2, 1)", x.mean(5, 0, 2, 1), 2);
        due(30, "mean(0, 1, 1, 0)", x.mean(0, 1, 1, 0), 5);
        due(30, "mean(0, 1, 1, 1)", x.mean(0, 1, 1, 1), 1);
        due(30, "mean(10, 0, 2, 0)", x.mean(10, 0, 2, 0), 0);
        due(30, "mean(10, 0, 2, 1)", x.mean(10, 0, 2, 1), 1);
        due(30, "mean(-1, ..)", x.mean(-1, 0, 2, 1), BAD);
        due(30, "mean(11, ..)", x.mean(11, 0, 2, 1), BAD);
        due(30, "mean(1, 2, 1, 0)", x.mean(1, 2, 1, 0), BAD);
        due(30, "mean(1, 0, 3, 0)", x.mean(1, 0, 3, 0), BAD);
        due(30, "mean(1, -1, 2, 0)", x.mean(1, -1, 2, 0), BAD);
        due(30, "mean(1, 0, 2, 2)", x.mean(1, 0, 2, 2), BAD);
    }

    private static void whatItWas() {
        FriezeFolk x = told("plain 4;clerk 8;child 2;wall 6 0;");
        due(31, "see(12, 0)", x.see(12, 0), BAD);
        due(31, "see(-1, 0)", x.see(-1, 0), BAD);
        due(31, "see(0, 100)", x.see(0, 100), BAD);
        due(31, "see(0, -1)", x.see(0, -1), BAD);
        due(33, "kinds(0), nothing seen", x.kinds(0), 15);
        due(34, "warmths(0), nothing seen", x.warmths(0), 1023);
        due(35, "shifts(), nothing seen", x.shifts(), 63);
        due(31, "see(1, 4)", x.see(1, 4), 1);
        due(33, "kinds(1)", x.kinds(1), 8);
        due(34, "warmths(1), 8 and 9 by half", x.warmths(1), 768);
        due(33, "kinds(0), not at that place", x.kinds(0), 15);
        due(35, "shifts(): clerk, child, plain at 1", x.shifts(), 63);
        due(31, "see(0, 4)", x.see(0, 4), 2);
        due(33, "kinds(0): plain, confider", x.kinds(0), 3);
        due(34, "warmths(0)", x.warmths(0), 16);
        due(33, "kinds(3)", x.kinds(3), BAD);
        due(33, "kinds(-1)", x.kinds(-1), BAD);
        due(34, "warmths(3)", x.warmths(3), BAD);
        due(34, "warmths(-1)", x.warmths(-1), BAD);
        due(31, "see(2, 10)", x.see(2, 10), 3);
        due(35, "shifts(), child at 2", x.shifts(), 9);
        due(35, "rule(2) is left alone", x.rule(2), 0);
        due(31, "see(6, 0) behind the wall", x.see(6, 0), 4);
        due(33, "kinds(0), no such place", x.kinds(0), 0);
        due(34, "warmths(0), no such place", x.warmths(0), 0);
        due(35, "shifts(), no such place", x.shifts(), 0);
        due(32, "forget(5)", x.forget(5), BAD);
        due(32, "forget(-1)", x.forget(-1), BAD);
        due(32, "forget(3)", x.forget(3), 4);
        due(32, "shifts()", x.shifts(), 9);
        due(32, "count(0)", x.count(0), 3);
        x.years(1);
        due(35, "shifts() as it stands now", x.shifts(), 0);
        due(31, "see(11, 99)", x.see(11, 99), 4);
        due(31, "see(11, 99)", x.see(11, 99), 5);
        due(31, "see(11, 99)", x.see(11, 99), 6);
        due(31, "see(11, 99)", x.see(11, 99), FULL);
        due(31, "see(12, 99) when full", x.see(12, 99), BAD);
        due(32, "forget(0)", x.forget(0), 6);
        due(32, "forget(0)", x.forget(0), 0);
    }

    private static void whereToLook() {
        FriezeFolk x = told("plain 1;plain 2;plain 3;plain 4;plain 5;plain 6;wall 6 0;");
        due(36, "ask(0)", x.ask(0), 0);
        due(36, "ask(1)", x.ask(1), 1);
        due(36, "ask(2)", x.ask(2), BAD);
        due(36, "ask(-1)", x.ask(-1), BAD);
        x.turn(0);
        due(36, "ask(0), the first is upside", x.ask(0), 1);
        x.see(1, 2);
        due(36, "ask(0), one is left", x.ask(0), NONE);
        due(36, "ask(1), one is left", x.ask(1), NONE);
        due(36, "rule(2) is left alone", x.rule(2), 0);
        FriezeFolk y = told("plain 5;plain 5;clerk 5;wall 6 0;");
        due(36, "ask(0)", y.ask(0), 0);
        due(36, "ask(1), at the worst", y.ask(1), 4);
        due(36, "ask(0), all alike", told("plain 5;").ask(0), NONE);
        due(36, "ask(0), nobody", new FriezeFolk().ask(0), NONE);
        FriezeFolk z = told("plain 3;confider 2;child 1;wall 6 0;");
        z.paint(0, 2);
        due(36, "ask(0), a better one behind", z.ask(0), 2);
        due(36, "ask(1), a better one behind", z.ask(1), 2);
        z.paint(0, 9);
        due(36, "ask(0): 3, 2, 2 at 1; 8, 3, 5 at 2", z.ask(0), 2);
        due(36, "ask(1): 3, 2, 2 at 1; 8, 3, 5 at 2", z.ask(1), 2);
    }

    private static void bySeed() {
        FriezeFolk x = told("plain 9;wall 12 0;window 0 11;");
        due(37, "drift(1, 3, 0): 96 and 84 and 72", x.drift(1, 3, 0), 252);
        due(37, "drift(1, 3, 1)", x.drift(1, 3, 1), 72);
        due(37, "drift(1, 0, 0)", x.drift(1, 0, 0), BAD);
        due(37, "drift(1, 61, 0)", x.drift(1, 61, 0), BAD);
        due(37, "drift(1, 1, 2)", x.drift(1, 1, 2), BAD);
        due(37, "drift(1, 1, -1)", x.drift(1, 1, -1), BAD);
        due(37, "rule(6) is left alone", x.rule(6), 0);
        due(37, "rule(7) is left alone", x.rule(7), 108);
        // Seed 0 becomes 12345, of which 0 is got: shift 0, window 0.
        FriezeFolk y = told("plain 1;plain 2;plain 3;plain 4;plain 5;plain 6;wall 5 3;window 9 0;");
        due(37, "drift(0, 1, 0)", y.drift(0, 1, 0), 14);
        due(37, "drift(0, 2, 1)", y.drift(0, 2, 1), bySecond());
        due(37, "drift(0, 2, 0)", y.drift(0, 2, 0), 14 + bySecond());
        due(37, "rule(2) is left alone", y.rule(2), 3);
        due(37, "rule(3) is left alone", y.rule(3), 9);
        FriezeFolk z = told(ALL);
        shorten(z);
        due(37, "drift(7, 20, 0)", z.drift(7, 20, 0), 298);
        due(37, "drift(7, 20, 1)", z.drift(7, 20, 1), 18);
        due(37, "drift(-3, 60, 0)", z.drift(-3, 60, 0), 889);
    }

    /** Reckoned with a modulus of two to the 32nd in place of the wrap-around of ints. */
    private static int bySecond() {
        long seed = (12345L * 1103515245L + 12345L) % 4294967296L;
        int got = (int) (seed / 65536 % 32768);
        int sum = 0;
        for (int i = 0; i < 5; i++) {
            int frank = (i + got % 6) % 6 + 1;
            frank -= i == 0 ? 1 : 0;
            frank -= got / 8 % 12 == i ? 1 : 0;
            sum += Math.max(0, frank);
        }
        return sum;
    }

    /** The changes that the third run of the shared test makes ahead of its drift. */
    private static void shorten(FriezeFolk x) {
        x.alter(0, 0, 3);
        x.alter(0, 1, 9);
        x.set(0, 12);
        x.set(1, 5);
        x.set(2, 11);
        x.set(3, 0);
        x.turn(3);
        x.paint(3, 7);
        x.print(1, 4);
        x.print(1, 4);
        x.years(5);
        x.set(0, 4);
    }

    private static void imagesKept() {
        FriezeFolk x = told(ALL);
        x.years(4);
        x.paint(10, 8);
        due(38, "keep(2)", x.keep(2), BAD);
        due(38, "keep(-1)", x.keep(-1), BAD);
        due(39, "back(2)", x.back(2), BAD);
        due(39, "back(-1)", x.back(-1), BAD);
        due(39, "back(0)", x.back(0), STATE);
        due(38, "keep(0)", x.keep(0), 0);
        due(38, "count(1)", x.count(1), 1);
        due(39, "back(1)", x.back(1), STATE);
        int frank = x.rule(7);
        x.set(0, 9);
        x.set(1, 0);
        x.set(2, 0);
        x.set(3, 11);
        x.turn(99);
        x.alter(3, 1, 0);
        x.print(0, 9);
        x.drop(1);
        x.stock(1, 1);
        x.years(6);
        due(38, "keep(1)", x.keep(1), 0);
        due(38, "keep(1)", x.keep(1), 1);
        due(38, "count(1)", x.count(1), 2);
        x.see(0, 0);
        x.feed(32);
        due(39, "back(0)", x.back(0), 4);
        int[] rules = {4, 11, 2, 3, 2, 6, 4, frank, 3};
        for (int what = 0; what < rules.length; what++) {
            due(39, "rule(" + what + ")", x.rule(what), rules[what]);
        }
        due(39, "block(3, 1)", x.block(3, 1), 9);
        due(39, "roll(1, 0)", x.roll(1, 0), 3);
        due(39, "place(10, 1)", x.place(10, 1), 8);
        due(39, "place(0, 1)", x.place(0, 1), 0);
        due(39, "place(3, 1)", x.place(3, 1), 4);
        due(39, "count(0) is left alone", x.count(0), 1);
        due(39, "count(1) is left alone", x.count(1), 2);
        due(39, "count(2) is left alone", x.count(2), 1);
        due(39, "back(1)", x.back(1), 10);
        due(39, "rule(0)", x.rule(0), 5);
        due(39, "rule(1)", x.rule(1), 9);
        x.set(0, 12);
        due(39, "place(10, 1) that was not there", x.place(10, 1), 8);
    }

    private static void sheetsLaid() {
        FriezeFolk x = new FriezeFolk();
        due(40, "sheet(4, 0, 1)", x.sheet(4, 0, 1), BAD);
        due(40, "sheet(-1, 0, 1)", x.sheet(-1, 0, 1), BAD);
        due(40, "sheet(0, 3, 1)", x.sheet(0, 3, 1), BAD);
        due(40, "sheet(0, -1, 1)", x.sheet(0, -1, 1), BAD);
        due(40, "sheet(0, 0, 41)", x.sheet(0, 0, 41), BAD);
        due(40, "sheet(0, 0, -1)", x.sheet(0, 0, -1), -14);
        due(40, "sheet(0, 0, LOW)", x.sheet(0, 0, LOW), -14);
        due(40, "sheet(4, 0, -1)", x.sheet(4, 0, -1), BAD);
        due(40, "sheet(0, 3, -1)", x.sheet(0, 3, -1), BAD);
        due(40, "count(3)", x.count(3), NONE);
        due(40, "sheet(0, 0, 0)", x.sheet(0, 0, 0), 1);
        due(40, "count(3)", x.count(3), 0);
        due(41, "lay(0, 0, 0)", x.lay(0, 0, 0), -12);
        due(40, "sheet(0, 2, 40)", x.sheet(0, 2, 40), 1);
        due(40, "count(3)", x.count(3), 40);
        due(41, "lay(0, 39, 1)", x.lay(0, 39, 1), 1);
        due(41, "lay(0, 40, 1)", x.lay(0, 40, 1), -12);
        due(41, "lay(0, -1, 1)", x.lay(0, -1, 1), -12);
        due(41, "lay(0, LOW, 1)", x.lay(0, LOW, 1), -12);
        due(41, "lay(3, 0, 1)", x.lay(3, 0, 1), -11);
        due(41, "lay(3, -1, 1)", x.lay(3, -1, 1), -11);
        due(41, "lay(4, 0, 1)", x.lay(4, 0, 1), BAD);
        due(41, "lay(-1, 0, 1)", x.lay(-1, 0, 1), BAD);
        // The lowest bits alone: 259 is 3 as a byte, 65539 is 3 as a short, neither is 3 as an int.
        int[][] lanes = {{0, 259, 1}, {1, 259, -20}, {1, 65539, 1}, {2, 65539, -20}, {0, 128, -20}, {1, 32768, -20}};
        for (int[] row : lanes) {
            FriezeFolk y = new FriezeFolk();
            y.sheet(1, row[0], 2);
            due(41, "lay(1, 0, " + row[1] + ")", y.lay(1, 0, row[1]), 1);
            due(41, "read of lane " + row[0], y.read(1, row[0], 0, 1), row[2]);
        }
        x.sheet(2, 2, 2);
        x.lay(2, 0, 2);
        x.lay(2, 1, 7);
        due(40, "read(2, 2, 0, 1)", x.read(2, 2, 0, 1), 1);
        due(40, "block(0, 1)", x.block(0, 1), 7);
        x.sheet(2, 2, 2);
        due(40, "read(2, 2, 0, 1) of a new row", x.read(2, 2, 0, 1), 1);
        due(40, "block(1, 0)", x.block(1, 0), 0);
        due(40, "block(1, 1)", x.block(1, 1), 0);
    }

    private static void sheetsRead() {
        FriezeFolk x = told("plain 3;");
        x.sheet(1, 1, 7);
        int[] cells = {1, 4, 2, 5, 3, 9, 0};
        for (int i = 0; i < cells.length; i++) {
            x.lay(1, i, cells[i]);
        }
        due(42, "read(4, 1, 0, 1)", x.read(4, 1, 0, 1), BAD);
        due(42, "read(-1, 1, 0, 1)", x.read(-1, 1, 0, 1), BAD);
        due(42, "read(1, 3, 0, 1)", x.read(1, 3, 0, 1), BAD);
        due(42, "read(1, -1, 0, 1)", x.read(1, -1, 0, 1), BAD);
        due(42, "read(1, 1, 0, 21)", x.read(1, 1, 0, 21), BAD);
        due(42, "read(1, 1, 0, -1)", x.read(1, 1, 0, -1), BAD);
        due(42, "read(1, 1, 0, 2)", x.read(1, 1, 0, 2), 2);
        due(42, "block(1, 0)", x.block(1, 0), 1);
        due(42, "block(1, 1)", x.block(1, 1), 4);
        due(42, "block(2, 0)", x.block(2, 0), 2);
        due(42, "block(2, 1)", x.block(2, 1), 5);
        due(43, "torn()", x.torn(), 0);
        due(42, "read(1, 1, 4, 20), the last is torn", x.read(1, 1, 4, 20), 1);
        due(43, "torn()", x.torn(), 2);
        due(42, "rule(0)", x.rule(0), 4);
        due(42, "read(1, 1, 0, 3), the 7th", x.read(1, 1, 0, 3), -22);
        due(42, "rule(0)", x.rule(0), 4);
        due(43, "torn() is left", x.torn(), 2);
        due(42, "read(1, 0, 0, 1)", x.read(1, 0, 0, 1), 0);
        due(43, "torn()", x.torn(), 3);
        due(42, "read(1, 2, 99, 1)", x.read(1, 2, 99, 1), 0);
        due(43, "torn()", x.torn(), 3);
        due(42, "read(1, 5, 99, 1)", x.read(1, 5, 99, 1), BAD);
        due(43, "torn() is left", x.torn(), 3);
        due(42, "read(2, 1, 0, 1)", x.read(2, 1, 0, 1), 0);
        due(43, "torn()", x.torn(), 1);
        due(42, "read(2, 1, 0, 0) of nothing", x.read(2, 1, 0, 0), 0);
        due(43, "torn()", x.torn(), 0);
        int[] outside = {-1, -2, 6, 7, HIGH, LOW};
        for (int f : outside) {
            due(42, "read(1, 1, " + f + ", 1)", x.read(1, 1, f, 1), 0);
            due(43, "torn()", x.torn(), 2);
        }
        due(42, "read(1, 2, HIGH, 0)", x.read(1, 2, HIGH, 0), 0);
        due(43, "torn()", x.torn(), 0);
        due(42, "read(1, 1, 1, 1), kind 4", x.read(1, 1, 1, 1), -20);
        x.lay(1, 3, 10);
        due(42, "read(1, 1, 0, 5), warmth 10", x.read(1, 1, 0, 5), -21);
        x.lay(1, 3, -1);
        due(42, "read(1, 1, 0, 5), warmth -1", x.read(1, 1, 0, 5), -21);
        due(42, "rule(0)", x.rule(0), 4);
        due(42, "back to the text", told("plain 3;").read(0, 0, 0, 1), 0);
    }

    private static void counts() {
        FriezeFolk x = told(ALL);
        x.see(0, 0);
        x.see(0, 0);
        x.keep(1);
        x.feed(1);
        x.feed(2);
        x.feed(3);
        x.sheet(0, 1, 17);
        x.paint(10, 7);
        x.paint(0, 5);
        int[] counts = {2, 1, 3, 17, 25, 12};
        for (int what = 0; what < counts.length; what++) {
            due(44, "count(" + what + ")", x.count(what), counts[what]);
        }
        due(44, "count(6)", x.count(6), BAD);
        due(44, "count(-1)", x.count(-1), BAD);
        x.set(0, 10);
        due(44, "count(5) of a shorter wall", x.count(5), 5);
    }

    public static void main(String[] args) {
        due(0, "BAD", FriezeFolk.BAD, BAD);
        due(0, "STATE", FriezeFolk.STATE, STATE);
        due(0, "FULL", FriezeFolk.FULL, FULL);
        due(0, "NONE", FriezeFolk.NONE, NONE);
        newObject();
        feedAndEnd();
        textTaken();
        textRefused();
        whatThereIs();
        blocksChanged();
        wallChanged();
        rollsChanged();
        yearsRun();
        yearsAhead();
        best();
        repeats();
        rollsCover();
        lampsOut();
        whatItWas();
        whereToLook();
        bySeed();
        imagesKept();
        sheetsLaid();
        sheetsRead();
        counts();
        System.out.println(wrong == 0 ? "all answers are as due" : wrong + " answers are not as due");
        if (wrong != 0) {
            System.exit(1);
        }
    }
}
