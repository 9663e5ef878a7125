/** Promises 1 to 5, THE TAPE, its TOKENS and FAULTS: each sentence that names a boundary has a test of its own. */
public final class EdgesOfTextTest {
    private static final int BAD = Desk.BAD, FULL = Desk.FULL, NONE = Desk.NONE;
    private static final int LOW = Desk.LOW, HIGH = Desk.HIGH;
    private static final String SIX = "plain0;plain0;plain0;plain0;plain0;plain0;";
    private static final String FOUR = "roll1 1;roll1 1;roll1 1;roll1 1;";

    /** The text is refused, nothing but the tape is changed by it, whatever there was. */
    private static void refused(String text, int fault, int at) {
        for (Desk.Start start : Desk.Start.values()) {
            java.util.List<Long> before = Desk.hallOf(start.make());
            FriezeFolk x = start.make();
            int seen = x.count(0);
            int images = x.count(1);
            x.end(0);
            Desk.due("text of '" + text + "' on " + start, Desk.tell(x, text), -10 - at);
            Desk.due("fault() of '" + text + "'", x.fault(), fault);
            Desk.due("the tape behind '" + text + "'", x.count(2), 0);
            Desk.due("all told before '" + text + "' stays", Desk.hallOf(x).equals(before) ? 1 : 0, 1);
            Desk.due("seen behind '" + text + "'", x.count(0), seen);
            Desk.due("images behind '" + text + "'", x.count(1), images);
        }
    }

    private static void taken(String text, int lines) {
        FriezeFolk x = new FriezeFolk();
        Desk.due("text of '" + text + "'", Desk.tell(x, text), lines);
        Desk.due("fault() of '" + text + "'", x.fault(), 0);
        Desk.due("the tape behind '" + text + "'", x.count(2), 0);
    }

    private static String times(int n, String s) {
        return s.repeat(n);
    }

    private static void newObject() {
        Desk.sentence(1, "No BLOCKS, no ROLLS; SHEETS have nothing.");
        FriezeFolk x = new FriezeFolk();
        Desk.due("rule(0)", x.rule(0), 0);
        Desk.due("block(0, 0)", x.block(0, 0), BAD);
        Desk.due("rule(8)", x.rule(8), 0);
        Desk.due("roll(0, 0)", x.roll(0, 0), BAD);
        Desk.due("count(3)", x.count(3), NONE);
        for (int k = 0; k < 4; k++) {
            Desk.due("lay(" + k + ", 0, 0)", x.lay(k, 0, 0), -11);
            for (int lane = 0; lane < 3; lane++) {
                Desk.due("read(" + k + ", " + lane + ", 0, 0)", x.read(k, lane, 0, 0), 0);
                Desk.due("torn()", x.torn(), 0);
                Desk.due("read(" + k + ", " + lane + ", 0, 1)", x.read(k, lane, 0, 1), 0);
                Desk.due("torn()", x.torn(), 1);
            }
        }
        Desk.due("another object is by itself", new FriezeFolk().torn(), 0);
    }

    private static void lastCall() {
        Desk.sentence(0, "An object is used for at most 512 calls after it has been made; what later calls answer is free.");
        FriezeFolk x = new FriezeFolk();
        for (int call = 1; call <= 511; call += 2) {
            Desk.due("feed(32), call " + call, x.feed(32), 1);
            Desk.due("end(0), call " + (call + 1), x.end(0), 1);
        }
        FriezeFolk y = new FriezeFolk();
        for (int call = 1; call <= 512; call++) {
            Desk.due("read(0, 0, 0, 1), call " + call, y.read(0, 0, 0, 1), 0);
        }
    }

    private static void bytesFed() {
        Desk.sentence(2, "A byte (0 to 127) comes behind THE TAPE: how many it has.");
        FriezeFolk x = new FriezeFolk();
        Desk.due("feed(0)", x.feed(0), 1);
        Desk.due("feed(127)", x.feed(127), 2);
        Desk.due("count(2)", x.count(2), 2);
        FriezeFolk y = new FriezeFolk();
        Desk.feedAll(y, "clerk 9");
        Desk.due("feed(59) comes behind", y.feed(';'), 8);
        Desk.due("text()", y.text(), 1);
        Desk.due("block(0, 1)", y.block(0, 1), 9);
        Desk.due("feed() on the tape that is empty again", y.feed('c'), 1);
        Desk.sentence(2, "BAD; FULL: more than 160.");
        for (int c : new int[] {-1, 128, LOW, HIGH, 256 + 'p'}) {
            Desk.stillAlways("feed(" + c + ")", z -> z.feed(c), BAD);
        }
        FriezeFolk full = new FriezeFolk();
        for (int n = 1; n <= 160; n++) {
            Desk.due("feed(32), the " + n + "th", full.feed(32), n);
        }
        Desk.still(Desk.Start.CROWDED, "feed(0), the 161st", z -> z.feed(0), FULL);
        Desk.still(Desk.Start.CROWDED, "feed(127), the 161st", z -> z.feed(127), FULL);
        Desk.due("feed(32) again", full.feed(32), FULL);
        Desk.due("end(159)", full.end(159), 160);
        Desk.due("feed(32), one came free", full.feed(32), 160);
        Desk.due("feed(32), none is free", full.feed(32), FULL);
    }

    private static void tapeEnds() {
        Desk.sentence(3, "THE TAPE keeps its first n bytes: how many it had.");
        FriezeFolk x = new FriezeFolk();
        Desk.due("end(0) of nothing", x.end(0), 0);
        Desk.feedAll(x, "plain 1;x");
        Desk.still(Desk.Start.CROWDED, "end(160) of 160", y -> y.end(160), 160);
        Desk.still(Desk.Start.BUSY, "end(8) of 8", y -> y.end(8), 8);
        Desk.due("end(8) of 9", x.end(8), 9);
        Desk.due("count(2)", x.count(2), 8);
        Desk.due("text()", x.text(), 1);
        Desk.feedAll(x, "plain 1;");
        Desk.due("end(6)", x.end(6), 8);
        Desk.due("feed() comes behind those that are kept", x.feed('7'), 7);
        x.feed(';');
        x.text();
        Desk.due("block(0, 1)", x.block(0, 1), 7);
        FriezeFolk crowded = Desk.Start.CROWDED.make();
        Desk.due("end(0) of 160", crowded.end(0), 160);
        Desk.due("count(2)", crowded.count(2), 0);
        Desk.due("end(0) again", crowded.end(0), 0);
        Desk.sentence(3, "BAD (n above that, too).");
        Desk.stillAlways("end(-1)", y -> y.end(-1), BAD);
        Desk.stillAlways("end(LOW)", y -> y.end(LOW), BAD);
        Desk.stillAlways("end(HIGH)", y -> y.end(HIGH), BAD);
        Desk.stillAlways("end(161)", y -> y.end(161), BAD);
        Desk.still(Desk.Start.BARE, "end(1) of nothing", y -> y.end(1), BAD);
        Desk.still(Desk.Start.BUSY, "end(9) of 8", y -> y.end(9), BAD);
    }

    private static void linesCounted() {
        Desk.sentence(4, "THE TAPE (empty then, by a FAULT, too) tells all: how many lines;");
        taken("", 0);
        taken(times(160, " "), 0);
        taken("plain0;", 1);
        taken(SIX + FOUR + "wall1 0;window0 0;upside0;", 13);
        taken(times(153, " ") + "plain0;", 1);
        taken("plain0;" + times(153, " "), 1);
        FriezeFolk x = Desk.Start.BUSY.make();
        x.end(0);
        Desk.due("text() of nothing", x.text(), 0);
        Desk.due("is as at first", Desk.hallOf(x).equals(Desk.hallOf(new FriezeFolk())) ? 1 : 0, 1);
        Desk.due("text() of what is empty then", Desk.tell(x, "clerk 1;") + x.text(), 1);
        Desk.due("rule(0)", x.rule(0), 0);
        Desk.sentence(4, "-10 less the place of its FAULT: that which was told stays.");
        refused("#", 1, 0);
        refused(times(159, " ") + "#", 1, 159);
        refused(times(155, " ") + "plain", 2, 160);
        refused("plain 1;plain 2;plain 3;window 1 12;", 3, 33);
        FriezeFolk y = new FriezeFolk();
        Desk.due("text()", Desk.tell(y, "plain 1;wall 3 3;#"), -27);
        Desk.due("nothing of it was told", Desk.hallOf(y).equals(Desk.hallOf(new FriezeFolk())) ? 1 : 0, 1);
    }

    private static void latestFault() {
        Desk.sentence(5, "The FAULT of the latest text(); 0.");
        FriezeFolk x = new FriezeFolk();
        Desk.due("fault() ahead of any", x.fault(), 0);
        String[] texts = {"", "#", ";", "wall 0", "upside 1;upside", SIX + "child"};
        for (int fault = 5; fault >= 0; fault--) {
            int answer = Desk.tell(x, texts[fault]);
            Desk.due("text of '" + texts[fault] + "' is refused", answer < 0 ? 1 : 0, fault == 0 ? 0 : 1);
            Desk.due("fault()", x.fault(), fault);
            x.feed(-1);
            x.end(-1);
            x.feed('x');
            x.end(0);
            x.years(-1);
            Desk.due("fault() when others were called", x.fault(), fault);
        }
    }

    private static void tapeBytes() {
        Desk.sentence(0, "THE TAPE has 160 bytes, places from 0.");
        refused("x", 2, 0);
        refused(times(159, " ") + "x", 2, 159);
        Desk.sentence(0, "NAMES (a .. z), NUMBERS (1 or 2 figures), the sign ; (every other byte is no TOKEN).");
        for (int c = 0; c < 128; c++) {
            FriezeFolk x = new FriezeFolk();
            x.feed(c);
            boolean token = c >= 'a' && c <= 'z' || c >= '0' && c <= '9' || c == ';';
            Desk.due("text of byte " + c, x.text(), c == ' ' ? 0 : -10);
            Desk.due("fault of byte " + c, x.fault(), c == ' ' ? 0 : token ? 2 : 1);
            Desk.feedAll(x, "plain");
            x.feed(c);
            Desk.feedAll(x, "5;");
            boolean figure = c >= '1' && c <= '9';
            boolean fine = c == ' ' || c == '0';
            int at = c >= 'a' && c <= 'z' ? 0 : 5;
            Desk.due("text with byte " + c + " within", x.text(), fine ? 1 : -10 - at);
            Desk.due("fault with byte " + c + " within", x.fault(), fine ? 0 : figure ? 3 : token ? 2 : 1);
        }
        taken("plain 9;", 1);
        taken("plain 09;", 1);
        refused("plain 009;", 1, 6);
    }

    private static void blanksAndLengths() {
        Desk.sentence(0, "TOKENS, each as long as may be, any number of blanks (32) ahead of, between, behind them"
            + " (one at least between two NAMES, between two NUMBERS; else none is needed):");
        taken("plain0;confider0;child0;clerk0;wall1 0;window0 0;upside0;roll1 1;", 8);
        taken(times(30, " ") + "wall" + times(30, " ") + "12" + times(30, " ") + "5" + times(30, " ") + ";"
            + times(30, " "), 1);
        taken("plain 0; clerk 0 ;", 2);
        refused("plainclerk 1;", 2, 0);
        refused("plain clerk 1;", 2, 6);
        refused("wal l 1 1;", 2, 0);
        refused("wall11;", 2, 6);
        refused("wall111;", 1, 4);
        refused("wall61;", 3, 4);
        refused("roll12;", 3, 4);
        refused("plain1 0;", 2, 7);
        Desk.due("wall1 1 by a blank", Desk.told("wall1 1;").rule(1), 1);
        Desk.due("wall11 1 by two figures", Desk.told("wall11 1;").rule(1), 11);
        refused("wall1\t1;", 1, 5);
        refused("plain\n1;", 1, 5);
        refused("plain" + (char) 31 + "1;", 1, 5);
        refused("plain!1;", 1, 5);
    }

    private static void linesOfEachKind() {
        Desk.sentence(0, "text: { line }   line: K N ; | wall N N ; | window N N ; | upside N ; | roll N N ;"
            + "   K: plain | confider | child | clerk");
        String[] names = {"plain", "confider", "child", "clerk", "wall", "window", "upside", "roll"};
        int[] numbers = {1, 1, 1, 1, 2, 2, 1, 2};
        for (int n = 0; n < names.length; n++) {
            int length = names[n].length();
            for (int many = 0; many <= 3; many++) {
                String line = names[n] + times(many, " 1") + ";";
                if (many == numbers[n]) {
                    taken(line, 1);
                    taken(line + "plain 1;", 2);
                    taken("clerk 1;" + line, 2);
                } else {
                    refused(line, 2, length + (many < numbers[n] ? 2 * many : 2 * numbers[n] + 1));
                }
            }
            refused(names[n].substring(0, length - 1) + " 1 1;", 2, 0);
            refused(names[n] + "s 1 1;", 2, 0);
            refused(names[n].substring(1) + " 1 1;", 2, 0);
            refused("z" + names[n].substring(1) + " 1 1;", 2, 0);
            refused(names[n].substring(0, length - 1) + "z 1 1;", 2, 0);
        }
    }

    private static void whatLinesTell() {
        Desk.sentence(0, "K: a BLOCK more of that KIND: WARMTH. wall: LONG, SHIFT. window: WINDOW, REACH. upside: UPSIDE."
            + " roll: a ROLL more: LENGTH, PRICE.");
        FriezeFolk x = Desk.told("clerk 9;child 0;confider 3;plain 4;wall 7 5;window 11 0;upside 9;roll 9 1;roll 1 9;");
        Desk.dueEach("rule", x, FriezeFolk::rule, 4, 7, 5, 11, 0, 9, 0, x.rule(7), 2, BAD);
        Desk.dueEach("block(.., 0)", x, (y, j) -> y.block(j, 0), 3, 2, 1, 0, BAD);
        Desk.dueEach("block(.., 1)", x, (y, j) -> y.block(j, 1), 9, 0, 3, 4, BAD);
        Desk.dueEach("roll(.., 0)", x, (y, k) -> y.roll(k, 0), 9, 1, BAD);
        Desk.dueEach("roll(.., 1)", x, (y, k) -> y.roll(k, 1), 1, 9, BAD);
        FriezeFolk other = Desk.told("window 0 11;wall 12 0;upside 0;");
        Desk.dueEach("rule", other, FriezeFolk::rule, 0, 12, 0, 0, 11, 0, 0, 0, 0, BAD);
        FriezeFolk late = Desk.told("roll 1 1;upside 11;wall 1 5;clerk 9;");
        Desk.dueEach("rule, the lines in another order", late, FriezeFolk::rule, 1, 1, 5, 0, 2, 11, 0, 4, 1);
    }

    private static void firstFault() {
        Desk.sentence(0, "FAULTS, the first met as it is read (a TOKEN is read when the one before has been taken):");
        refused("bishop #", 2, 0);
        refused("bishop#", 2, 0);
        refused("wall 13 #", 3, 5);
        refused("wall 13#", 3, 5);
        refused("wall 1 6#", 3, 7);
        refused("wall 1 # 100", 1, 7);
        refused("plain 10 10", 3, 6);
        refused("plain 1 10 #", 2, 8);
        refused("wall # wall", 1, 5);
        refused("wall 1 1;wall 13 #", 4, 9);
        refused("wall 1 1;wall", 4, 9);
        refused("roll 1 1;roll 0 1;roll 1 0;", 3, 14);
        refused(SIX + "clerk 10 #", 5, 42);
        refused(SIX + "clerk#", 5, 42);
        refused(FOUR + "roll;", 5, 32);
        refused(SIX + FOUR + "roll 1 1;plain 1;", 5, 74);
    }

    private static void noToken() {
        Desk.sentence(0, "1 no TOKEN, a NUMBER that is too long (its first byte).");
        refused("plain 000;", 1, 6);
        refused("plain 123;", 1, 6);
        refused("plain 99999999999999999999;", 1, 6);
        refused("wall 1 005;", 1, 7);
        refused("000", 1, 0);
        refused("plain 1 100;", 1, 8);
        refused("plain 1;100", 1, 8);
        refused("plain  -1;", 1, 7);
        refused("plain 1.;", 1, 7);
        refused("plain 1;Wall 1 1;", 1, 8);
        refused("wAll 1 1;", 2, 0);
        taken("plain 01;", 1);
    }

    private static void canNotStand() {
        Desk.sentence(0, "2 a TOKEN that can not stand there (a NAME that begins no line; or the end: the length).");
        refused("bishop 1;", 2, 0);
        refused("  bishop 1;", 2, 2);
        refused("plain 1;bishop 1;", 2, 8);
        refused("1 plain;", 2, 0);
        refused(";", 2, 0);
        refused("plain 1;;", 2, 8);
        refused("plain 1; 5", 2, 9);
        refused("plain;", 2, 5);
        refused("plain plain 1;", 2, 6);
        refused("plain bishop;", 2, 6);
        refused("plain 1 plain", 2, 8);
        refused("plain 1plain", 2, 7);
        refused("wall 1;", 2, 6);
        refused("wall 1 wall;", 2, 7);
        refused("upside 1 1;", 2, 9);
        for (String text : new String[] {"plain", "plain ", "plain 1", "plain 1  ", "wall", "wall 1", "wall 1 ",
            "wall 1 1", "upside", "upside 1", "window 1 1 ", "roll 1", "plain 1;clerk", "plain 1;wall 1 1"}) {
            refused(text, 2, text.length());
        }
        taken("plain 1;", 1);
    }

    /** Each number of each line, its least and most taken, one less and one more refused at its first byte. */
    private static void outOfBounds() {
        Desk.sentence(0, "3 a NUMBER out of its bounds.");
        for (String k : new String[] {"plain", "confider", "child", "clerk"}) {
            bounds(k + " ", ";", 0, 9);
        }
        bounds("wall ", " 0;", 1, 12);
        bounds("wall 1 ", ";", 0, 5);
        bounds("window ", " 0;", 0, 11);
        bounds("window 0 ", ";", 0, 11);
        bounds("upside ", ";", 0, 11);
        bounds("roll ", " 1;", 1, 9);
        bounds("roll 1 ", ";", 1, 9);
        refused("wall 00 1;", 3, 5);
        refused("upside 99;", 3, 7);
    }

    private static void bounds(String ahead, String behind, int least, int most) {
        taken(ahead + least + behind, 1);
        taken(ahead + "0" + least + behind, 1);
        taken(ahead + most + behind, 1);
        refused(ahead + (most + 1) + behind, 3, ahead.length());
        refused(ahead + 99 + behind, 3, ahead.length());
        if (least > 0) {
            refused(ahead + (least - 1) + behind, 3, ahead.length());
        }
    }

    private static void secondTime() {
        Desk.sentence(0, "4 wall, window, upside for the second time (its NAME).");
        refused("wall 1 1;wall 1 1;", 4, 9);
        refused("window 1 1;window 1 1;", 4, 11);
        refused("upside 1;upside 1;", 4, 9);
        refused("upside 1;wall 1 1;window 1 1;  upside 2;", 4, 31);
        refused("window 0 2;wall 12 0;wall 12 0;", 4, 21);
        refused("wall 1 1;plain 1;plain 1;wall 1 1;", 4, 25);
        taken("wall 1 1;window 1 1;upside 1;", 3);
        taken("plain 1;plain 1;roll 1 1;roll 1 1;", 4);
        FriezeFolk x = Desk.told("wall 1 1;window 1 1;upside 1;");
        Desk.due("another text has its own", Desk.tell(x, "wall 2 1;window 2 1;upside 2;"), 3);
        Desk.due("text()", Desk.tell(x, "wall 2 1;#"), -19);
        Desk.due("one behind a fault has its own", Desk.tell(x, "wall 3 1;"), 1);
    }

    private static void tooMany() {
        Desk.sentence(0, "5 the 7th BLOCK, the 5th roll (its NAME).");
        taken(SIX, 6);
        taken("plain 1;confider 1;child 1;clerk 1;child 1;clerk 1;", 6);
        for (String k : new String[] {"plain", "confider", "child", "clerk"}) {
            refused(SIX + k + "0;", 5, 42);
        }
        refused("plain 1;confider 1;child 1;clerk 1;child 1;clerk 1;wall 1 1;  plain 1;", 5, 62);
        taken(FOUR, 4);
        refused(FOUR + "roll1 1;", 5, 32);
        refused(FOUR + " window 1 1; roll1 1;", 5, 45);
        taken(SIX + FOUR, 10);
        FriezeFolk x = Desk.Start.CROWDED.make();
        x.end(0);
        Desk.due("those that there were count for nothing", Desk.tell(x, SIX + FOUR), 10);
        Desk.due("rule(0)", x.rule(0), 6);
        Desk.due("rule(8)", x.rule(8), 4);
    }

    private static void textThatIsTaken() {
        Desk.sentence(0, "A text that is taken tells all, in place of what there was (what no line tells is as at first,"
            + " no FADE); nothing is SEEN; IMAGES are gone; SHEETS stay.");
        String[] texts = {"", "plain 3;", "wall 4 1;", "window 3 4;", "upside 5;", "roll 2 2;"};
        for (Desk.Start start : Desk.Start.values()) {
            for (String text : texts) {
                FriezeFolk x = start.make();
                int cells = x.count(3);
                int torn = x.torn();
                x.end(0);
                Desk.due("text of '" + text + "' on " + start, Desk.tell(x, text), text.isEmpty() ? 0 : 1);
                Desk.due("all is as by '" + text + "' alone on " + start,
                    Desk.hallOf(x).equals(Desk.hallOf(Desk.told(text))) ? 1 : 0, 1);
                Desk.due("nothing is seen", x.count(0), 0);
                Desk.due("shifts()", x.shifts(), 63);
                Desk.due("images are gone", x.count(1), 0);
                Desk.due("back(0)", x.back(0), Desk.STATE);
                Desk.due("back(1)", x.back(1), Desk.STATE);
                Desk.due("sheets stay", x.count(3), cells);
                Desk.due("torn() stays", x.torn(), torn);
            }
        }
        FriezeFolk x = Desk.Start.CROWDED.make();
        x.text();
        for (int k = 0; k < 4; k++) {
            Desk.due("sheet " + k + " stays", x.read(k, k % 3, 38, 1), 1);
            Desk.due("and its cells", x.block(k + 1, 1), 9 - k);
        }
    }

    public static void main(String[] args) {
        newObject();
        lastCall();
        bytesFed();
        tapeEnds();
        linesCounted();
        latestFault();
        tapeBytes();
        blanksAndLengths();
        linesOfEachKind();
        whatLinesTell();
        firstFault();
        noToken();
        canNotStand();
        outOfBounds();
        secondTime();
        tooMany();
        textThatIsTaken();
        Desk.close();
    }
}
