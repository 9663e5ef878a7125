import java.util.Arrays;

/** People printed by the yard along a wall; ../shared/DOC.md says what each call promises. */
public final class FriezeFolk {
    public static final int BAD = -1, STATE = -2, FULL = -3, NONE = -4;

    private static final int MOST_BLOCKS = 6;
    private static final int MOST_PLACES = 12;
    private static final int MOST_ROLLS = 4;
    private static final int MOST_SEEN = 6;
    private static final int KINDS = 4;
    private static final int WARMTHS = 10;
    private static final int SHIFTS = 6;
    private static final int MOST_FADE = 99;
    private static final int LONGEST_ROLL = 9;
    private static final int DEAREST_ROLL = 9;
    private static final int MOST_YEARS = 30;
    private static final int END_OF_YEARS = 1000;
    private static final int MOST_AHEAD = 60;
    private static final int MOST_COVERED = 60;
    private static final int MOST_LUCK = 999;
    private static final int NO_UPSIDE = 99;

    private static final int PLAIN = 0, CONFIDER = 1, CHILD = 2, CLERK = 3;

    private static final int LANES = 3;
    private static final int MOST_CELLS = 40;
    private static final int MOST_READ = 20;
    private static final int NULL = 1, INDEX = 2, CAST = 3, SIZE = 4;

    private final Hall hall = new Hall();
    /** A hall to try changes in, so that a question leaves the real one alone. */
    private final Hall trial = new Hall();
    private final Image[] images = {new Image(), new Image()};
    private final Reader reader = new Reader();
    private final Memory memory = new Memory();
    private final Paperer paperer = new Paperer();
    private final Lamps lamps = new Lamps();
    private final Row[] rows = {new Row(), new Row(), new Row(), new Row()};
    private int torn = 0;

    public FriezeFolk() {
    }

    // ---- the text, what there is

    public int feed(int c) {
        if (c < 0 || c > 127) {
            return BAD;
        }
        return reader.append(c) ? reader.size : FULL;
    }

    public int end(int n) {
        if (n < 0 || n > reader.size) {
            return BAD;
        }
        int had = reader.size;
        reader.size = n;
        return had;
    }

    public int text() {
        int lines = reader.takeAll();
        reader.size = 0;
        if (reader.fault != 0) {
            return -10 - reader.faultAt;
        }
        hall.copy(reader.told);
        memory.size = 0;
        loseImages();
        return lines;
    }

    public int fault() {
        return reader.fault;
    }

    public int rule(int what) {
        switch (what) {
            case 0: return hall.blocks;
            case 1: return hall.wide;
            case 2: return hall.shift;
            case 3: return hall.window;
            case 4: return hall.reach;
            case 5: return hall.upside;
            case 6: return hall.year;
            case 7: return hall.frankOfAll();
            case 8: return hall.rolls;
            default: return BAD;
        }
    }

    public int block(int j, int what) {
        if (!hall.hasBlock(j)) {
            return BAD;
        }
        switch (what) {
            case 0: return hall.kind[j];
            case 1: return hall.warmth[j];
            case 2: return hall.placesOf(j);
            case 3: return hall.frankOf(hall.placesOf(j));
            default: return BAD;
        }
    }

    public int place(int i, int what) {
        if (!hall.hasPlace(i)) {
            return BAD;
        }
        switch (what) {
            case 0: return hall.whoAt(i);
            case 1: return hall.fade[i];
            case 2: return hall.frankAt(i);
            default: return BAD;
        }
    }

    public int roll(int k, int what) {
        if (!hall.hasRoll(k)) {
            return BAD;
        }
        switch (what) {
            case 0: return hall.length[k];
            case 1: return hall.price[k];
            default: return BAD;
        }
    }

    // ---- what is changed

    public int alter(int j, int what, int v) {
        if (!hall.hasBlock(j) || v < 0) {
            return BAD;
        }
        if (what == 0 && v < KINDS) {
            int was = hall.kind[j];
            hall.kind[j] = v;
            return was;
        }
        if (what == 1 && v < WARMTHS) {
            int was = hall.warmth[j];
            hall.warmth[j] = v;
            return was;
        }
        return BAD;
    }

    public int set(int what, int v) {
        int was = BAD;
        if (what == 0 && v >= 1 && v <= MOST_PLACES) {
            was = hall.wide;
            hall.wide = v;
        } else if (what == 1 && v >= 0 && v < SHIFTS) {
            was = hall.shift;
            hall.shift = v;
        } else if (what == 2 && v >= 0 && v < MOST_PLACES) {
            was = hall.window;
            hall.window = v;
        } else if (what == 3 && v >= 0 && v < MOST_PLACES) {
            was = hall.reach;
            hall.reach = v;
        }
        return was;
    }

    public int turn(int i) {
        if ((i < 0 || i >= MOST_PLACES) && i != NO_UPSIDE) {
            return BAD;
        }
        int was = hall.upside;
        hall.upside = i == NO_UPSIDE ? NONE : i;
        return was;
    }

    public int paint(int i, int v) {
        if (!hall.hasPlace(i) || v < 0 || v > MOST_FADE) {
            return BAD;
        }
        int was = hall.fade[i];
        hall.fade[i] = v;
        return was;
    }

    public int print(int kind, int warmth) {
        return hall.addBlock(kind, warmth);
    }

    public int stock(int length, int price) {
        return hall.addRoll(length, price);
    }

    public int drop(int n) {
        if (n < 0 || n > hall.rolls) {
            return BAD;
        }
        int were = hall.rolls;
        hall.rolls = n;
        return were;
    }

    // ---- years

    public int years(int n) {
        if (n < 0 || n > MOST_YEARS) {
            return BAD;
        }
        if (hall.year + n >= END_OF_YEARS) {
            return FULL;
        }
        hall.pass(n);
        return hall.frankOfAll();
    }

    public int runs(int n, int what) {
        if (n < 0 || n > MOST_AHEAD || what < 0 || what > 3) {
            return BAD;
        }
        trial.copy(hall);
        trial.pass(n);
        switch (what) {
            case 0: return trial.frankOfAll();
            case 1: return trial.placesWithout();
            case 2: return trial.frankestFrom(1);
            default: return trial.frankAt(trial.frankestFrom(1));
        }
    }

    public int ahead(int i, int n) {
        if (!hall.hasPlace(i) || n < 0 || n > MOST_AHEAD) {
            return BAD;
        }
        trial.copy(hall);
        trial.pass(n);
        return trial.frankAt(i);
    }

    public int fades(int i) {
        if (!hall.hasPlace(i)) {
            return BAD;
        }
        trial.copy(hall);
        for (int n = 0; n <= MOST_AHEAD; n++) {
            if (trial.frankAt(i) == 0) {
                return n;
            }
            trial.pass(1);
        }
        return NONE;
    }

    // ---- what is best

    public int stretch(int n, int what) {
        if (n < 1 || n > hall.wide || isNoPair(what)) {
            return BAD;
        }
        int from = hall.frankestFrom(n);
        return what == 0 ? from : hall.frankFrom(from, n);
    }

    public int hang(int what) {
        if (isNoPair(what)) {
            return BAD;
        }
        trial.copy(hall);
        int best = 0;
        int most = -1;
        for (int s = 0; s < SHIFTS; s++) {
            trial.shift = s;
            int frank = trial.frankOfAll();
            if (frank > most) {
                best = s;
                most = frank;
            }
        }
        return what == 0 ? best : most;
    }

    public int shade(int n, int what) {
        if (n < 0 || n > MOST_AHEAD || isNoPair(what)) {
            return BAD;
        }
        int best = 0;
        int most = -1;
        for (int w = 0; w < MOST_PLACES; w++) {
            trial.copy(hall);
            trial.window = w;
            trial.pass(n);
            int frank = trial.frankOfAll();
            if (frank > most) {
                best = w;
                most = frank;
            }
        }
        return what == 0 ? best : most;
    }

    public int swap(int what) {
        if (isNoPair(what)) {
            return BAD;
        }
        trial.copy(hall);
        int best = NONE;
        int most = hall.frankOfAll();
        for (int j = 0; j < hall.blocks; j++) {
            for (int other = j + 1; other < hall.blocks; other++) {
                trial.exchange(j, other);
                int frank = trial.frankOfAll();
                if (frank > most) {
                    best = 10 * j + other;
                    most = frank;
                }
                trial.exchange(j, other);
            }
        }
        return best == NONE || what == 0 ? best : most;
    }

    public int period() {
        if (hall.blocks == 0) {
            return STATE;
        }
        for (int p = 1; p < hall.wide; p++) {
            if (hall.repeatsBy(p)) {
                return p;
            }
        }
        return hall.wide;
    }

    public int alike() {
        if (hall.blocks == 0) {
            return STATE;
        }
        trial.copy(hall);
        int many = 0;
        for (int s = 0; s < SHIFTS; s++) {
            trial.shift = s;
            if (trial.looksLike(hall)) {
                many++;
            }
        }
        return many;
    }

    public int cover(int n, int what) {
        if (n < 0 || n > MOST_COVERED || isNoPair(what)) {
            return BAD;
        }
        if (hall.rolls == 0 && n > 0) {
            return NONE;
        }
        paperer.reckon(hall, NONE);
        int least = paperer.leastPrice(n);
        return what == 0 ? least : paperer.leastLeft(n, least);
    }

    public int most(int k, int n) {
        if (!hall.hasRoll(k) || n < 0 || n > MOST_COVERED) {
            return BAD;
        }
        paperer.reckon(hall, k);
        return paperer.mostChosen(n, paperer.leastPrice(n));
    }

    // ---- lamps that are out

    public long luck(int v, int a, int b, int w, int what) {
        if (areNoLamps(v, a, b) || w < 0 || w > MOST_LUCK || isNoPair(what)) {
            return BAD;
        }
        lamps.reckon(hall, v, a, b);
        return inLowestTerms(lamps.oddsOf(w), lamps.whole, what);
    }

    public long mean(int v, int a, int b, int what) {
        if (areNoLamps(v, a, b) || isNoPair(what)) {
            return BAD;
        }
        long lit = 10 - v;
        return inLowestTerms(lit * hall.frankFrom(a, b - a + 1), 10, what);
    }

    // ---- what it was

    public int see(int i, int v) {
        if (i < 0 || i >= MOST_PLACES || v < 0 || v > 99) {
            return BAD;
        }
        return memory.add(i, v) ? memory.size : FULL;
    }

    public int forget(int n) {
        if (n < 0 || n > memory.size) {
            return BAD;
        }
        int were = memory.size;
        memory.size = n;
        return were;
    }

    public int kinds(int j) {
        if (!hall.hasBlock(j)) {
            return BAD;
        }
        trial.copy(hall);
        int bits = 0;
        for (int kind = 0; kind < KINDS; kind++) {
            trial.kind[j] = kind;
            if (memory.fits(trial)) {
                bits |= 1 << kind;
            }
        }
        return bits;
    }

    public int warmths(int j) {
        if (!hall.hasBlock(j)) {
            return BAD;
        }
        trial.copy(hall);
        int bits = 0;
        for (int warmth = 0; warmth < WARMTHS; warmth++) {
            trial.warmth[j] = warmth;
            if (memory.fits(trial)) {
                bits |= 1 << warmth;
            }
        }
        return bits;
    }

    public int shifts() {
        return fittingShifts();
    }

    public int ask(int what) {
        if (isNoPair(what)) {
            return BAD;
        }
        int open = fittingShifts();
        int best = NONE;
        int fewest = Integer.bitCount(open);
        for (int i = 0; i < hall.wide; i++) {
            int left = leftAtWorst(open, i);
            if (left < fewest) {
                best = i;
                fewest = left;
            }
        }
        return best == NONE || what == 0 ? best : fewest;
    }

    // ---- by a seed

    public int drift(int seed, int n, int what) {
        if (n < 1 || n > MOST_AHEAD || isNoPair(what)) {
            return BAD;
        }
        trial.copy(hall);
        int chance = seed;
        int sum = 0;
        int last = 0;
        for (int year = 0; year < n; year++) {
            chance = chance * 1103515245 + 12345;
            int got = (chance >>> 16) & 32767;
            trial.shift = got % SHIFTS;
            trial.window = got / 8 % MOST_PLACES;
            trial.pass(1);
            last = trial.frankOfAll();
            sum += last;
        }
        return what == 0 ? sum : last;
    }

    // ---- images, sheets

    public int keep(int k) {
        Image image = imageOf(k);
        if (image == null) {
            return BAD;
        }
        int was = image.held ? 1 : 0;
        image.hall.copy(hall);
        image.held = true;
        return was;
    }

    public int back(int k) {
        Image image = imageOf(k);
        if (image == null) {
            return BAD;
        }
        if (!image.held) {
            return STATE;
        }
        hall.copy(image.hall);
        return hall.year;
    }

    public int sheet(int k, int lane, int n) {
        Row row = rowOf(k);
        if (row == null || lane < 0 || lane >= LANES || n > MOST_CELLS) {
            return BAD;
        }
        if (n < 0) {
            return -10 - SIZE;
        }
        row.renew(lane, n);
        return 1;
    }

    public int lay(int k, int i, int v) {
        Row row = rowOf(k);
        if (row == null) {
            return BAD;
        }
        int found = row.faultAt(row.lane, i);
        if (found != 0) {
            return -10 - found;
        }
        row.write(i, v);
        return 1;
    }

    public int read(int k, int lane, int f, int n) {
        Row row = rowOf(k);
        if (row == null || lane < 0 || lane >= LANES || n < 0 || n > MOST_READ) {
            return BAD;
        }
        trial.copy(hall);
        int found = 0;
        int came = 0;
        for (int i = 0; i < n && found == 0; i++) {
            int cell = f + 2 * i;
            found = row.faultOfPair(lane, cell);
            if (found == 0) {
                if (trial.addBlock(row.cellAt(cell), row.cellAt(cell + 1)) < 0) {
                    return -20 - i;
                }
                came++;
            }
        }
        hall.copy(trial);
        torn = found;
        return came;
    }

    public int torn() {
        return torn;
    }

    public int count(int what) {
        switch (what) {
            case 0: return memory.size;
            case 1: return imagesHeld();
            case 2: return reader.size;
            case 3: return cellsOfFirst();
            case 4: return hall.warmthOfAll();
            case 5: return hall.fadeOfAll();
            default: return BAD;
        }
    }

    // ---- what several calls need

    /** Most questions have two answers, told by 0 and 1. */
    private static boolean isNoPair(int what) {
        return what != 0 && what != 1;
    }

    private boolean areNoLamps(int v, int a, int b) {
        return v < 0 || v > 10 || !hall.hasPlace(a) || !hall.hasPlace(b) || a > b;
    }

    private static long inLowestTerms(long numerator, long denominator, int what) {
        long divisor = numerator;
        long rest = denominator;
        // Euclid needs fewer than 100 steps for any two longs.
        for (int step = 0; step < 100 && rest != 0; step++) {
            long next = divisor % rest;
            divisor = rest;
            rest = next;
        }
        if (divisor < 1) {
            return BAD;
        }
        return what == 0 ? numerator / divisor : denominator / divisor;
    }

    private int fittingShifts() {
        trial.copy(hall);
        int bits = 0;
        for (int s = 0; s < SHIFTS; s++) {
            trial.shift = s;
            if (memory.fits(trial)) {
                bits |= 1 << s;
            }
        }
        return bits;
    }

    /** How many of the open shifts stay, if the look at the place tells least. */
    private int leftAtWorst(int open, int i) {
        int worst = 0;
        for (int s = 0; s < SHIFTS; s++) {
            if ((open >> s & 1) != 0) {
                int frank = frankByShift(s, i);
                int same = 0;
                for (int other = 0; other < SHIFTS; other++) {
                    if ((open >> other & 1) != 0 && frankByShift(other, i) == frank) {
                        same++;
                    }
                }
                worst = Math.max(worst, same);
            }
        }
        return worst;
    }

    /** The trial holds the hall already, all but its shift. */
    private int frankByShift(int s, int i) {
        trial.shift = s;
        return trial.frankAt(i);
    }

    private Image imageOf(int k) {
        return k >= 0 && k < images.length ? images[k] : null;
    }

    private Row rowOf(int k) {
        return k >= 0 && k < rows.length ? rows[k] : null;
    }

    private void loseImages() {
        for (int k = 0; k < images.length; k++) {
            Image image = imageOf(k);
            if (image != null) {
                image.held = false;
            }
        }
    }

    private int imagesHeld() {
        int many = 0;
        for (int k = 0; k < images.length; k++) {
            Image image = imageOf(k);
            if (image != null && image.held) {
                many++;
            }
        }
        return many;
    }

    private int cellsOfFirst() {
        Row row = rowOf(0);
        return row == null || row.lane == NONE ? NONE : row.size;
    }

    /** BLOCKS, THE WALL and ROLLS: all that a text tells and an image holds. */
    private static final class Hall {
        final int[] kind = new int[MOST_BLOCKS];
        final int[] warmth = new int[MOST_BLOCKS];
        final int[] fade = new int[MOST_PLACES];
        final int[] length = new int[MOST_ROLLS];
        final int[] price = new int[MOST_ROLLS];
        int blocks;
        int wide;
        int shift;
        int window;
        int reach;
        int upside;
        int year;
        int rolls;

        Hall() {
            clear();
        }

        void clear() {
            blocks = 0;
            wide = MOST_PLACES;
            shift = 0;
            window = 0;
            reach = 2;
            upside = NONE;
            year = 0;
            rolls = 0;
            Arrays.fill(fade, 0);
        }

        void copy(Hall from) {
            if (from == null) {
                return;
            }
            System.arraycopy(from.kind, 0, kind, 0, MOST_BLOCKS);
            System.arraycopy(from.warmth, 0, warmth, 0, MOST_BLOCKS);
            System.arraycopy(from.fade, 0, fade, 0, MOST_PLACES);
            System.arraycopy(from.length, 0, length, 0, MOST_ROLLS);
            System.arraycopy(from.price, 0, price, 0, MOST_ROLLS);
            blocks = from.blocks;
            wide = from.wide;
            shift = from.shift;
            window = from.window;
            reach = from.reach;
            upside = from.upside;
            year = from.year;
            rolls = from.rolls;
        }

        boolean hasBlock(int j) {
            return j >= 0 && j < blocks && j < MOST_BLOCKS;
        }

        boolean hasPlace(int i) {
            return i >= 0 && i < wide && i < MOST_PLACES;
        }

        boolean hasRoll(int k) {
            return k >= 0 && k < rolls && k < MOST_ROLLS;
        }

        int addBlock(int newKind, int newWarmth) {
            if (newKind < 0 || newKind >= KINDS || newWarmth < 0 || newWarmth >= WARMTHS) {
                return BAD;
            }
            if (blocks < 0 || blocks >= MOST_BLOCKS) {
                return FULL;
            }
            kind[blocks] = newKind;
            warmth[blocks] = newWarmth;
            blocks++;
            return blocks;
        }

        int addRoll(int newLength, int newPrice) {
            if (newLength < 1 || newLength > LONGEST_ROLL || newPrice < 1 || newPrice > DEAREST_ROLL) {
                return BAD;
            }
            if (rolls < 0 || rolls >= MOST_ROLLS) {
                return FULL;
            }
            length[rolls] = newLength;
            price[rolls] = newPrice;
            rolls++;
            return rolls;
        }

        void exchange(int j, int other) {
            if (!hasBlock(j) || !hasBlock(other)) {
                return;
            }
            int keptKind = kind[j];
            int keptWarmth = warmth[j];
            kind[j] = kind[other];
            warmth[j] = warmth[other];
            kind[other] = keptKind;
            warmth[other] = keptWarmth;
        }

        /** The window stays where it is meanwhile, so many years fade at once as one by one. */
        void pass(int n) {
            for (int i = 0; i < wide && i < MOST_PLACES; i++) {
                if (Math.abs(i - window) <= reach) {
                    fade[i] = Math.min(MOST_FADE, fade[i] + n);
                }
            }
            year += n;
        }

        int whoAt(int i) {
            return blocks < 1 ? NONE : Math.floorMod(i + shift, blocks);
        }

        int frankAt(int i) {
            if (!hasPlace(i) || i == upside) {
                return 0;
            }
            int j = whoAt(i);
            return hasBlock(j) ? Math.max(0, frankWhenNew(j, i) - fade[i]) : 0;
        }

        private int frankWhenNew(int j, int i) {
            if (!hasBlock(j)) {
                return 0;
            }
            int plain = warmth[j];
            int confider = i % 3 == 2 ? plain + 3 : plain;
            switch (kind[j]) {
                case PLAIN: return plain;
                case CONFIDER: return confider;
                case CHILD: return 2 * confider;
                case CLERK: return plain / 2;
                default: return 0;
            }
        }

        int frankFrom(int from, int n) {
            int sum = 0;
            for (int i = 0; i < MOST_PLACES; i++) {
                if (i >= from && i < from + n) {
                    sum += frankAt(i);
                }
            }
            return sum;
        }

        int frankOfAll() {
            return frankFrom(0, wide);
        }

        int frankOf(int places) {
            int sum = 0;
            for (int i = 0; i < MOST_PLACES; i++) {
                if ((places >> i & 1) != 0) {
                    sum += frankAt(i);
                }
            }
            return sum;
        }

        int placesOf(int j) {
            int bits = 0;
            for (int i = 0; i < wide && i < MOST_PLACES; i++) {
                if (whoAt(i) == j) {
                    bits |= 1 << i;
                }
            }
            return bits;
        }

        int placesWithout() {
            int bits = 0;
            for (int i = 0; i < wide && i < MOST_PLACES; i++) {
                if (frankAt(i) == 0) {
                    bits |= 1 << i;
                }
            }
            return bits;
        }

        int frankestFrom(int n) {
            int best = 0;
            int most = -1;
            for (int i = 0; i + n <= wide && i < MOST_PLACES; i++) {
                int frank = frankFrom(i, n);
                if (frank > most) {
                    best = i;
                    most = frank;
                }
            }
            return best;
        }

        boolean repeatsBy(int p) {
            for (int i = 0; i + p < wide && i < MOST_PLACES; i++) {
                if (looksAt(i) != looksAt(i + p)) {
                    return false;
                }
            }
            return true;
        }

        boolean looksLike(Hall other) {
            if (other == null) {
                return false;
            }
            for (int i = 0; i < wide && i < MOST_PLACES; i++) {
                if (looksAt(i) != other.looksAt(i)) {
                    return false;
                }
            }
            return true;
        }

        /** One number for kind and warmth together: two blocks of the same look alike. */
        private int looksAt(int i) {
            int j = whoAt(i);
            return hasBlock(j) ? kind[j] * WARMTHS + warmth[j] : NONE;
        }

        int warmthOfAll() {
            int sum = 0;
            for (int j = 0; j < blocks && j < MOST_BLOCKS; j++) {
                sum += warmth[j];
            }
            return sum;
        }

        int fadeOfAll() {
            int sum = 0;
            for (int i = 0; i < wide && i < MOST_PLACES; i++) {
                sum += fade[i];
            }
            return sum;
        }
    }

    /** A hall as it was kept. */
    private static final class Image {
        final Hall hall = new Hall();
        boolean held = false;
    }

    /** What was SEEN. */
    private static final class Memory {
        final int[] where = new int[MOST_SEEN];
        final int[] frank = new int[MOST_SEEN];
        int size = 0;

        boolean add(int i, int v) {
            if (size < 0 || size >= MOST_SEEN) {
                return false;
            }
            where[size] = i;
            frank[size] = v;
            size++;
            return true;
        }

        boolean fits(Hall hall) {
            if (hall == null) {
                return false;
            }
            for (int m = 0; m < size && m < MOST_SEEN; m++) {
                if (!hall.hasPlace(where[m]) || hall.frankAt(where[m]) != frank[m]) {
                    return false;
                }
            }
            return true;
        }
    }

    /** Reckons the cheapest rolls for each length that they have together. */
    private static final class Paperer {
        /** Of the cheapest rolls none can be left out, so they are less than one roll too long. */
        private static final int LENGTHS = MOST_COVERED + LONGEST_ROLL;
        private static final int NEVER = 1000000;

        private final int[] least = new int[LENGTHS];
        private final int[] chosen = new int[LENGTHS];

        /** Of several that are as cheap, those with most of the roll k. */
        void reckon(Hall hall, int k) {
            if (hall == null) {
                return;
            }
            least[0] = 0;
            chosen[0] = 0;
            for (int sum = 1; sum < LENGTHS; sum++) {
                least[sum] = NEVER;
                chosen[sum] = 0;
                for (int r = 0; r < MOST_ROLLS && hall.hasRoll(r); r++) {
                    lengthen(sum, sum - hall.length[r], hall.price[r], r == k ? 1 : 0);
                }
            }
        }

        private void lengthen(int sum, int from, int price, int more) {
            if (from < 0 || from >= LENGTHS || sum < 0 || sum >= LENGTHS || least[from] == NEVER) {
                return;
            }
            int paid = least[from] + price;
            int many = chosen[from] + more;
            if (paid < least[sum] || paid == least[sum] && many > chosen[sum]) {
                least[sum] = paid;
                chosen[sum] = many;
            }
        }

        int leastPrice(int n) {
            int best = NEVER;
            for (int sum = 0; sum < LENGTHS; sum++) {
                if (sum >= n) {
                    best = Math.min(best, least[sum]);
                }
            }
            return best;
        }

        int leastLeft(int n, int paid) {
            for (int sum = 0; sum < LENGTHS; sum++) {
                if (sum >= n && least[sum] == paid) {
                    return sum - n;
                }
            }
            return NONE;
        }

        int mostChosen(int n, int paid) {
            int best = 0;
            for (int sum = 0; sum < LENGTHS; sum++) {
                if (sum >= n && least[sum] == paid) {
                    best = Math.max(best, chosen[sum]);
                }
            }
            return best;
        }
    }

    /** In how many of the ways, out of the whole, the lamps leave each sum of FRANK. */
    private static final class Lamps {
        /** A child of most warmth at each place: twice 9 and 3. */
        private static final int MOST_FRANK = MOST_PLACES * 24;

        private final long[] ways = new long[MOST_FRANK + 1];
        long whole = 1;

        void reckon(Hall hall, int v, int a, int b) {
            Arrays.fill(ways, 0L);
            ways[0] = 1;
            whole = 1;
            if (hall == null) {
                return;
            }
            for (int i = 0; i < MOST_PLACES; i++) {
                if (i >= a && i <= b) {
                    hangLamp(hall.frankAt(i), v);
                }
            }
        }

        /** From the greatest sum down, so that what is added to is still without this lamp. */
        private void hangLamp(int frank, int v) {
            for (int sum = MOST_FRANK; sum >= 0; sum--) {
                int dark = sum - frank;
                long lit = dark >= 0 && dark <= MOST_FRANK ? ways[dark] * (10 - v) : 0;
                ways[sum] = ways[sum] * v + lit;
            }
            whole *= 10;
        }

        long oddsOf(int w) {
            long sum = 0;
            for (int frank = 0; frank <= MOST_FRANK; frank++) {
                if (frank >= w) {
                    sum += ways[frank];
                }
            }
            return sum;
        }
    }

    /** A SHEET: its cells are held as ints and cut to the lane when they are written. */
    private static final class Row {
        private final int[] cells = new int[MOST_CELLS];
        int lane = NONE;
        int size = 0;

        void renew(int newLane, int n) {
            Arrays.fill(cells, 0);
            lane = newLane;
            size = n;
        }

        int faultAt(int asLane, int i) {
            if (lane == NONE) {
                return NULL;
            }
            if (lane != asLane) {
                return CAST;
            }
            return i < 0 || i >= size ? INDEX : 0;
        }

        int faultOfPair(int asLane, int i) {
            int first = faultAt(asLane, i);
            return first != 0 ? first : faultAt(asLane, i + 1);
        }

        int cellAt(int i) {
            return i >= 0 && i < size && i < MOST_CELLS ? cells[i] : 0;
        }

        void write(int i, int v) {
            if (i < 0 || i >= MOST_CELLS) {
                return;
            }
            switch (lane) {
                case 0:
                    cells[i] = (byte) v;
                    break;
                case 1:
                    cells[i] = (short) v;
                    break;
                default:
                    cells[i] = v;
                    break;
            }
        }
    }

    /** THE TAPE and the hall that it tells, which is whole only if there is no fault. */
    private static final class Reader {
        private static final int MOST_BYTES = 160;
        private static final int NOTHING = 0, NAME = 1, NUMBER = 2, SIGN = 3, WRONG = 4;

        /** The lines by their names: the first four are the kinds, by their numbers. */
        private static final int WALL = 4, WINDOW = 5, UPSIDE = 6, ROLL = 7, LINES = 8;
        private static final int[] FIRST_LEAST = {0, 0, 0, 0, 1, 0, 0, 1};
        private static final int[] FIRST_MOST = {9, 9, 9, 9, 12, 11, 11, 9};
        private static final int[] SECOND_LEAST = {0, 0, 0, 0, 0, 0, 0, 1};
        private static final int[] SECOND_MOST = {0, 0, 0, 0, 5, 11, 0, 9};

        final Hall told = new Hall();
        private final byte[] tape = new byte[MOST_BYTES];
        int size = 0;
        int fault = 0;
        int faultAt = 0;
        private int token = NOTHING;
        private int start = 0;
        private int stop = 0;
        private int number = 0;
        private int linesTold = 0;

        boolean append(int c) {
            if (size < 0 || size >= MOST_BYTES) {
                return false;
            }
            tape[size] = (byte) c;
            size++;
            return true;
        }

        /** How many lines there are; after a fault, how many there were ahead of it. */
        int takeAll() {
            told.clear();
            fault = 0;
            faultAt = 0;
            stop = 0;
            linesTold = 0;
            int lines = 0;
            // A line has more than one byte, so the tape holds fewer lines than bytes.
            for (int most = 0; most < MOST_BYTES; most++) {
                nextToken();
                if (token == NOTHING || !takeLine()) {
                    return lines;
                }
                lines++;
            }
            return lines;
        }

        private boolean takeLine() {
            int line = token == NAME ? lineNamed() : NONE;
            if (line < 0 || line >= LINES) {
                return refuse(2);
            }
            if (isSecond(line)) {
                return refuse(4);
            }
            if (isTooMany(line)) {
                return refuse(5);
            }
            if (!takeNumber(FIRST_LEAST[line], FIRST_MOST[line])) {
                return false;
            }
            int first = number;
            if (hasTwo(line) && !takeNumber(SECOND_LEAST[line], SECOND_MOST[line])) {
                return false;
            }
            int second = number;
            nextToken();
            if (token != SIGN) {
                return refuse(2);
            }
            tell(line, first, second);
            return true;
        }

        private boolean takeNumber(int least, int most) {
            nextToken();
            if (token != NUMBER) {
                return refuse(2);
            }
            return number >= least && number <= most || refuse(3);
        }

        /** What is no token at all is told ahead of where it stands. */
        private boolean refuse(int why) {
            fault = token == WRONG ? 1 : why;
            faultAt = start;
            return false;
        }

        private boolean hasTwo(int line) {
            return line == WALL || line == WINDOW || line == ROLL;
        }

        private boolean isSecond(int line) {
            return (line == WALL || line == WINDOW || line == UPSIDE) && (linesTold >> line & 1) != 0;
        }

        private boolean isTooMany(int line) {
            return line < KINDS && told.blocks >= MOST_BLOCKS || line == ROLL && told.rolls >= MOST_ROLLS;
        }

        private void tell(int line, int first, int second) {
            linesTold |= 1 << line;
            switch (line) {
                case WALL:
                    told.wide = first;
                    told.shift = second;
                    break;
                case WINDOW:
                    told.window = first;
                    told.reach = second;
                    break;
                case UPSIDE:
                    told.upside = first;
                    break;
                case ROLL:
                    told.addRoll(first, second);
                    break;
                default:
                    told.addBlock(line, first);
                    break;
            }
        }

        private int lineNamed() {
            if (isWord("plain")) {
                return PLAIN;
            }
            if (isWord("confider")) {
                return CONFIDER;
            }
            if (isWord("child")) {
                return CHILD;
            }
            if (isWord("clerk")) {
                return CLERK;
            }
            if (isWord("wall")) {
                return WALL;
            }
            if (isWord("window")) {
                return WINDOW;
            }
            if (isWord("upside")) {
                return UPSIDE;
            }
            return isWord("roll") ? ROLL : NONE;
        }

        private boolean isWord(String word) {
            if (word == null || stop - start != word.length()) {
                return false;
            }
            for (int i = 0; i < word.length(); i++) {
                if (byteAt(start + i) != word.charAt(i)) {
                    return false;
                }
            }
            return true;
        }

        /** The token lies from start on, up to stop. */
        private void nextToken() {
            start = stop;
            while (start < size && byteAt(start) == ' ') {
                start++;
            }
            stop = start;
            if (start >= size) {
                token = NOTHING;
            } else if (isLetter(byteAt(start))) {
                takeLetters();
            } else if (isFigure(byteAt(start))) {
                takeFigures();
            } else {
                token = byteAt(start) == ';' ? SIGN : WRONG;
                stop = start + 1;
            }
        }

        private void takeLetters() {
            while (stop < size && isLetter(byteAt(stop))) {
                stop++;
            }
            token = NAME;
        }

        private void takeFigures() {
            number = 0;
            while (stop < size && isFigure(byteAt(stop))) {
                number = number * 10 + byteAt(stop) - '0';
                stop++;
            }
            token = stop - start <= 2 ? NUMBER : WRONG;
        }

        private static boolean isLetter(int c) {
            return c >= 'a' && c <= 'z';
        }

        private static boolean isFigure(int c) {
            return c >= '0' && c <= '9';
        }

        private int byteAt(int i) {
            return i >= 0 && i < size && i < MOST_BYTES ? tape[i] : NONE;
        }
    }
}
