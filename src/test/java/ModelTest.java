import java.lang.reflect.Method;
import java.math.BigInteger;
import java.util.ArrayList;
import java.util.Arrays;
import java.util.HashMap;
import java.util.List;
import java.util.Map;
import java.util.Random;
import java.util.function.IntUnaryOperator;
import java.util.regex.Matcher;
import java.util.regex.Pattern;

/** Long runs of calls, by fixed seeds, on the class and on a slow model of the document; every answer must agree. */
public final class ModelTest {
    private static final int RUNS = 600;
    private static final int CALLS = 220;
    /** The document promises nothing about an object behind so many. */
    private static final int PROMISED = 512;
    /** What sameState() asks of one object. */
    private static final int QUESTIONS = 62;
    /** What a random call that tells no text asks for at most. */
    private static final int MOST_AT_ONCE = 3;
    private static final String[] LINES = {"plain", "confider", "child", "clerk", "wall", "window", "upside", "roll"};

    /** The document word by word, in whichever way is simplest to check by eye. */
    public static final class Model {
        static final int BAD = -1, STATE = -2, FULL = -3, NONE = -4;

        static final class Hall {
            List<int[]> blocks = new ArrayList<>();
            List<int[]> rolls = new ArrayList<>();
            int[] fade = new int[12];
            int wide = 12, shift = 0, window = 0, reach = 2, upside = NONE, year = 0;

            Hall twin() {
                Hall h = new Hall();
                for (int[] b : blocks) h.blocks.add(b.clone());
                for (int[] r : rolls) h.rolls.add(r.clone());
                h.fade = fade.clone();
                h.wide = wide;
                h.shift = shift;
                h.window = window;
                h.reach = reach;
                h.upside = upside;
                h.year = year;
                return h;
            }

            int who(int i) {
                return blocks.isEmpty() ? NONE : (i + shift) % blocks.size();
            }

            int frank(int i) {
                if (blocks.isEmpty() || upside == i) return 0;
                int[] b = blocks.get(who(i));
                int extra = i == 2 || i == 5 || i == 8 || i == 11 ? 3 : 0;
                int[] byKind = {b[1], b[1] + extra, b[1] + b[1] + extra + extra, b[1] >> 1};
                return byKind[b[0]] < fade[i] ? 0 : byKind[b[0]] - fade[i];
            }

            int all() {
                int sum = 0;
                for (int i = 0; i < wide; i++) sum += frank(i);
                return sum;
            }

            Hall after(int n) {
                Hall h = twin();
                for (int y = 0; y < n; y++) {
                    for (int i = h.window - h.reach; i <= h.window + h.reach; i++) {
                        if (i >= 0 && i < h.wide && h.fade[i] < 99) h.fade[i]++;
                    }
                    h.year++;
                }
                return h;
            }

            String look(int i) {
                return Arrays.toString(blocks.get(who(i)));
            }
        }

        Hall hall = new Hall();
        Hall[] images = new Hall[2];
        StringBuilder tape = new StringBuilder();
        List<int[]> seen = new ArrayList<>();
        Object[] sheets = new Object[4];
        int fault = 0, torn = 0;

        static boolean in(int v, int least, int most) {
            return v >= least && v <= most;
        }

        public int feed(int c) {
            if (!in(c, 0, 127)) return BAD;
            if (tape.length() == 160) return FULL;
            tape.append((char) c);
            return tape.length();
        }

        public int end(int n) {
            int had = tape.length();
            if (!in(n, 0, had)) return BAD;
            tape.setLength(n);
            return had;
        }

        static final class Fault extends RuntimeException {
            private static final long serialVersionUID = 1L;
            final int why, at;

            Fault(int why, int at) {
                this.why = why;
                this.at = at;
            }
        }

        static final class Tokens {
            static final Pattern ONE = Pattern.compile(" *(?:([a-z]+)|([0-9]+)|(;)|(.)|$)", Pattern.DOTALL);
            final String text;
            int from = 0, at = 0;
            String name, number;
            boolean sign, over;

            Tokens(String text) {
                this.text = text;
            }

            void next() {
                Matcher m = ONE.matcher(text).region(from, text.length());
                if (!m.lookingAt()) throw new IllegalStateException();
                name = m.group(1);
                number = m.group(2);
                sign = m.group(3) != null;
                over = name == null && number == null && !sign && m.group(4) == null;
                for (at = from; at < text.length() && text.charAt(at) == ' '; ) at++;
                from = m.end();
                if (m.group(4) != null || number != null && number.length() > 2) throw new Fault(1, at);
            }

            int number(int least, int most) {
                next();
                if (number == null) throw new Fault(2, at);
                if (!in(Integer.parseInt(number), least, most)) throw new Fault(3, at);
                return Integer.parseInt(number);
            }
        }

        public int text() {
            Tokens t = new Tokens(tape.toString());
            tape.setLength(0);
            Hall h = new Hall();
            List<String> names = new ArrayList<>();
            try {
                for (t.next(); !t.over; t.next()) {
                    line(t, h, names);
                    names.add(t.name);
                }
            } catch (Fault f) {
                fault = f.why;
                return -10 - f.at;
            }
            fault = 0;
            hall = h;
            images = new Hall[2];
            seen.clear();
            return names.size();
        }

        private void line(Tokens t, Hall h, List<String> names) {
            int which = Arrays.asList(LINES).indexOf(t.name);
            String name = t.name;
            if (which < 0) throw new Fault(2, t.at);
            if (which >= 4 && which <= 6 && names.contains(name)) throw new Fault(4, t.at);
            if (which < 4 && h.blocks.size() == 6 || which == 7 && h.rolls.size() == 4) throw new Fault(5, t.at);
            if (which < 4) h.blocks.add(new int[] {which, t.number(0, 9)});
            if (which == 4) {
                h.wide = t.number(1, 12);
                h.shift = t.number(0, 5);
            }
            if (which == 5) {
                h.window = t.number(0, 11);
                h.reach = t.number(0, 11);
            }
            if (which == 6) h.upside = t.number(0, 11);
            if (which == 7) h.rolls.add(new int[] {t.number(1, 9), t.number(1, 9)});
            t.next();
            if (!t.sign) throw new Fault(2, t.at);
            t.name = name;
        }

        public int fault() {
            return fault;
        }

        public int rule(int what) {
            if (!in(what, 0, 8)) return BAD;
            return new int[] {hall.blocks.size(), hall.wide, hall.shift, hall.window, hall.reach, hall.upside, hall.year,
                hall.all(), hall.rolls.size()}[what];
        }

        public int block(int j, int what) {
            if (!in(j, 0, hall.blocks.size() - 1) || !in(what, 0, 3)) return BAD;
            int bits = 0, sum = 0;
            for (int i = 0; i < hall.wide; i++) {
                if (hall.who(i) == j) {
                    bits += (int) Math.pow(2, i);
                    sum += hall.frank(i);
                }
            }
            return new int[] {hall.blocks.get(j)[0], hall.blocks.get(j)[1], bits, sum}[what];
        }

        boolean isPlace(int i) {
            return in(i, 0, hall.wide - 1);
        }

        public int place(int i, int what) {
            if (!isPlace(i) || !in(what, 0, 2)) return BAD;
            return new int[] {hall.who(i), hall.fade[i], hall.frank(i)}[what];
        }

        public int roll(int k, int what) {
            return !in(k, 0, hall.rolls.size() - 1) || !in(what, 0, 1) ? BAD : hall.rolls.get(k)[what];
        }

        public int alter(int j, int what, int v) {
            if (!in(j, 0, hall.blocks.size() - 1) || !in(what, 0, 1) || !in(v, 0, what == 0 ? 3 : 9)) return BAD;
            int was = hall.blocks.get(j)[what];
            hall.blocks.get(j)[what] = v;
            return was;
        }

        public int set(int what, int v) {
            if (!in(what, 0, 3) || !in(v, what == 0 ? 1 : 0, new int[] {12, 5, 11, 11}[what])) return BAD;
            int was = rule(what + 1);
            if (what == 0) hall.wide = v;
            if (what == 1) hall.shift = v;
            if (what == 2) hall.window = v;
            if (what == 3) hall.reach = v;
            return was;
        }

        public int turn(int i) {
            if (i != 99 && !in(i, 0, 11)) return BAD;
            int was = hall.upside;
            hall.upside = i == 99 ? NONE : i;
            return was;
        }

        public int paint(int i, int v) {
            if (!isPlace(i) || !in(v, 0, 99)) return BAD;
            int was = hall.fade[i];
            hall.fade[i] = v;
            return was;
        }

        static int more(List<int[]> list, int most, int a, int b) {
            if (list.size() == most) return FULL;
            list.add(new int[] {a, b});
            return list.size();
        }

        public int print(int kind, int warmth) {
            return !in(kind, 0, 3) || !in(warmth, 0, 9) ? BAD : more(hall.blocks, 6, kind, warmth);
        }

        public int stock(int length, int price) {
            return !in(length, 1, 9) || !in(price, 1, 9) ? BAD : more(hall.rolls, 4, length, price);
        }

        static int first(List<int[]> list, int n) {
            int were = list.size();
            if (!in(n, 0, were)) return BAD;
            list.subList(n, were).clear();
            return were;
        }

        public int drop(int n) {
            return first(hall.rolls, n);
        }

        public int years(int n) {
            if (!in(n, 0, 30)) return BAD;
            if (hall.year + n > 999) return FULL;
            hall = hall.after(n);
            return hall.all();
        }

        public int runs(int n, int what) {
            if (!in(n, 0, 60) || !in(what, 0, 3)) return BAD;
            Hall h = hall.after(n);
            int bits = 0;
            for (int i = 0; i < h.wide; i++) bits += h.frank(i) == 0 ? 1 << i : 0;
            int[] best = best(0, h.wide - 1, h::frank);
            return new int[] {h.all(), bits, best[0], best[1]}[what];
        }

        public int ahead(int i, int n) {
            return !isPlace(i) || !in(n, 0, 60) ? BAD : hall.after(n).frank(i);
        }

        public int fades(int i) {
            if (!isPlace(i)) return BAD;
            for (int n = 0; n <= 60; n++) if (hall.after(n).frank(i) == 0) return n;
            return NONE;
        }

        static int[] best(int from, int to, IntUnaryOperator value) {
            int[] best = {from, value.applyAsInt(from)};
            for (int i = from + 1; i <= to; i++) {
                if (value.applyAsInt(i) > best[1]) best = new int[] {i, value.applyAsInt(i)};
            }
            return best;
        }

        public int stretch(int n, int what) {
            if (!in(n, 1, hall.wide) || !in(what, 0, 1)) return BAD;
            return best(0, hall.wide - n, from -> {
                int sum = 0;
                for (int i = from; i < from + n; i++) sum += hall.frank(i);
                return sum;
            })[what];
        }

        Hall shifted(int s) {
            Hall h = hall.twin();
            h.shift = s;
            return h;
        }

        public int hang(int what) {
            return !in(what, 0, 1) ? BAD : best(0, 5, s -> shifted(s).all())[what];
        }

        public int shade(int n, int what) {
            if (!in(n, 0, 60) || !in(what, 0, 1)) return BAD;
            return best(0, 11, w -> {
                Hall h = hall.twin();
                h.window = w;
                return h.after(n).all();
            })[what];
        }

        public int swap(int what) {
            if (!in(what, 0, 1)) return BAD;
            int[] best = best(0, 99, code -> {
                int j = code / 10, k = code % 10;
                if (j >= k || k >= hall.blocks.size()) return -1;
                Hall h = hall.twin();
                java.util.Collections.swap(h.blocks, j, k);
                return h.all();
            });
            return best[1] > hall.all() ? best[what] : NONE;
        }

        public int period() {
            if (hall.blocks.isEmpty()) return STATE;
            for (int p = 1; ; p++) {
                boolean repeats = true;
                for (int i = 0; i < hall.wide; i++) {
                    repeats &= i + p >= hall.wide || hall.look(i).equals(hall.look(i + p));
                }
                if (repeats) return p;
            }
        }

        public int alike() {
            if (hall.blocks.isEmpty()) return STATE;
            int many = 0;
            for (int s = 0; s < 6; s++) {
                boolean same = true;
                for (int i = 0; i < hall.wide; i++) same &= shifted(s).look(i).equals(hall.look(i));
                many += same ? 1 : 0;
            }
            return many;
        }

        /** Tries every number of each roll: {price, left, most of roll k}. */
        private int[] papered(int n, int k) {
            int[] best = {Integer.MAX_VALUE, 0, 0};
            tryRolls(0, n, n, 0, 0, k, best);
            return best;
        }

        private void tryRolls(int r, int n, int rest, int price, int ofK, int k, int[] best) {
            if (rest <= 0 || r == hall.rolls.size()) {
                if (rest > 0) return;
                if (price < best[0]) {
                    best[0] = price;
                    best[1] = -rest;
                    best[2] = ofK;
                } else if (price == best[0]) {
                    best[1] = Math.min(best[1], -rest);
                    best[2] = Math.max(best[2], ofK);
                }
                return;
            }
            int[] roll = hall.rolls.get(r);
            boolean last = r == hall.rolls.size() - 1;
            for (int many = last ? (rest + roll[0] - 1) / roll[0] : 0; (many - 1) * roll[0] < rest; many++) {
                tryRolls(r + 1, n, rest - many * roll[0], price + many * roll[1], ofK + (r == k ? many : 0), k, best);
            }
        }

        public int cover(int n, int what) {
            if (!in(n, 0, 60) || !in(what, 0, 1)) return BAD;
            return hall.rolls.isEmpty() && n > 0 ? NONE : papered(n, -1)[what];
        }

        public int most(int k, int n) {
            return !in(k, 0, hall.rolls.size() - 1) || !in(n, 0, 60) ? BAD : papered(n, k)[2];
        }

        static long lowest(BigInteger a, BigInteger b, int what) {
            return (what == 0 ? a : b).divide(a.gcd(b)).longValueExact();
        }

        /** Every set of lamps by itself: {ways for w or more, ways times frank, all ways}. */
        private BigInteger[] lamps(int v, int a, int b, int w) {
            BigInteger[] sums = {BigInteger.ZERO, BigInteger.ZERO, BigInteger.ZERO};
            for (int set = 0; set < 1 << (b - a + 1); set++) {
                int frank = 0;
                BigInteger ways = BigInteger.ONE;
                for (int i = a; i <= b; i++) {
                    boolean lit = (set >> (i - a) & 1) == 1;
                    frank += lit ? hall.frank(i) : 0;
                    ways = ways.multiply(BigInteger.valueOf(lit ? 10 - v : v));
                }
                if (frank >= w) sums[0] = sums[0].add(ways);
                sums[1] = sums[1].add(ways.multiply(BigInteger.valueOf(frank)));
                sums[2] = sums[2].add(ways);
            }
            return sums;
        }

        public long luck(int v, int a, int b, int w, int what) {
            if (!in(v, 0, 10) || !isPlace(a) || !isPlace(b) || a > b || !in(w, 0, 999) || !in(what, 0, 1)) return BAD;
            BigInteger[] sums = lamps(v, a, b, w);
            return lowest(sums[0], sums[2], what);
        }

        public long mean(int v, int a, int b, int what) {
            if (!in(v, 0, 10) || !isPlace(a) || !isPlace(b) || a > b || !in(what, 0, 1)) return BAD;
            BigInteger[] sums = lamps(v, a, b, 0);
            return lowest(sums[1], sums[2], what);
        }

        public int see(int i, int v) {
            return !in(i, 0, 11) || !in(v, 0, 99) ? BAD : more(seen, 6, i, v);
        }

        public int forget(int n) {
            return first(seen, n);
        }

        boolean asSeen(Hall h) {
            for (int[] s : seen) if (s[0] >= h.wide || h.frank(s[0]) != s[1]) return false;
            return true;
        }

        int fitting(int j, int what, int many) {
            int bits = 0;
            for (int v = 0; v < many; v++) {
                Hall h = hall.twin();
                h.blocks.get(j)[what] = v;
                bits += asSeen(h) ? 1 << v : 0;
            }
            return bits;
        }

        public int kinds(int j) {
            return !in(j, 0, hall.blocks.size() - 1) ? BAD : fitting(j, 0, 4);
        }

        public int warmths(int j) {
            return !in(j, 0, hall.blocks.size() - 1) ? BAD : fitting(j, 1, 10);
        }

        public int shifts() {
            int bits = 0;
            for (int s = 0; s < 6; s++) bits += asSeen(shifted(s)) ? 1 << s : 0;
            return bits;
        }

        public int ask(int what) {
            if (!in(what, 0, 1)) return BAD;
            int open = shifts();
            int[] best = best(0, hall.wide - 1, i -> {
                int[] left = new int[100];
                for (int s = 0; s < 6; s++) if ((open >> s) % 2 == 1) left[shifted(s).frank(i)]++;
                return -Arrays.stream(left).max().getAsInt();
            });
            return -best[1] >= Integer.bitCount(open) ? NONE : what == 0 ? best[0] : -best[1];
        }

        public int drift(int seed, int n, int what) {
            if (!in(n, 1, 60) || !in(what, 0, 1)) return BAD;
            BigInteger two32 = BigInteger.ONE.shiftLeft(32), s = BigInteger.valueOf(seed);
            Hall h = hall;
            int sum = 0;
            for (int y = 0; y < n; y++) {
                s = s.multiply(BigInteger.valueOf(1103515245)).add(BigInteger.valueOf(12345)).mod(two32);
                int got = s.shiftRight(16).mod(BigInteger.valueOf(1 << 15)).intValue();
                h = h.twin();
                h.shift = got % 6;
                h.window = got / 8 % 12;
                h = h.after(1);
                sum += h.all();
            }
            return what == 0 ? sum : h.all();
        }

        public int keep(int k) {
            if (!in(k, 0, 1)) return BAD;
            int was = images[k] == null ? 0 : 1;
            images[k] = hall.twin();
            return was;
        }

        public int back(int k) {
            if (!in(k, 0, 1)) return BAD;
            if (images[k] == null) return STATE;
            hall = images[k].twin();
            return hall.year;
        }

        public int sheet(int k, int lane, int n) {
            if (!in(k, 0, 3) || !in(lane, 0, 2) || n > 40) return BAD;
            if (n < 0) return -14;
            sheets[k] = lane == 0 ? new byte[n] : lane == 1 ? new short[n] : new int[n];
            return 1;
        }

        public int lay(int k, int i, int v) {
            if (!in(k, 0, 3)) return BAD;
            try {
                if (sheets[k] instanceof byte[] b) b[i] = (byte) v;
                else if (sheets[k] instanceof short[] s) s[i] = (short) v;
                else ((int[]) sheets[k])[i] = v;
                return 1;
            } catch (NullPointerException e) {
                return -11;
            } catch (IndexOutOfBoundsException e) {
                return -12;
            }
        }

        static int cell(Object sheet, int lane, int i) {
            if (lane == 0) return ((byte[]) sheet)[i];
            if (lane == 1) return ((short[]) sheet)[i];
            return ((int[]) sheet)[i];
        }

        /** Here the machine itself finds the faults, as the document has it. */
        public int read(int k, int lane, int f, int n) {
            if (!in(k, 0, 3) || !in(lane, 0, 2) || !in(n, 0, 20)) return BAD;
            Hall before = hall.twin();
            int found = 0, came = 0;
            try {
                for (int i = 0; i < n; i++) {
                    int kind = cell(sheets[k], lane, f + 2 * i), warmth = cell(sheets[k], lane, f + 2 * i + 1);
                    if (print(kind, warmth) < 0) {
                        hall = before;
                        return -20 - i;
                    }
                    came++;
                }
            } catch (NullPointerException e) {
                found = 1;
            } catch (IndexOutOfBoundsException e) {
                found = 2;
            } catch (ClassCastException e) {
                found = 3;
            }
            torn = found;
            return came;
        }

        public int torn() {
            return torn;
        }

        public int count(int what) {
            if (!in(what, 0, 5)) return BAD;
            int held = (images[0] == null ? 0 : 1) + (images[1] == null ? 0 : 1);
            int cells = sheets[0] == null ? NONE : java.lang.reflect.Array.getLength(sheets[0]);
            int warmth = 0, fade = 0;
            for (int[] b : hall.blocks) warmth += b[1];
            for (int i = 0; i < hall.wide; i++) fade += hall.fade[i];
            return new int[] {seen.size(), held, tape.length(), cells, warmth, fade}[what];
        }
    }

    /** A call of the run, so that it can be made again on another object. */
    private record Call(Method mine, Object[] args) {
    }

    private static final Map<String, Method> MINE = methodsOf(FriezeFolk.class);
    private static final Map<String, Method> DUE = methodsOf(Model.class);
    private final Random random;
    private final FriezeFolk folk = new FriezeFolk();
    private final Model model = new Model();
    private final List<Call> calls = new ArrayList<>();
    private final StringBuilder said = new StringBuilder();

    private ModelTest(long seed) {
        random = new Random(seed);
    }

    private static Map<String, Method> methodsOf(Class<?> type) {
        Map<String, Method> methods = new HashMap<>();
        for (Method m : type.getMethods()) {
            if (m.getDeclaringClass() == type) methods.put(m.getName(), m);
        }
        return methods;
    }

    private boolean same(String name, Object... args) throws ReflectiveOperationException {
        calls.add(new Call(MINE.get(name), args));
        return sameOn(folk, name, args);
    }

    private boolean sameOn(FriezeFolk x, String name, Object... args) throws ReflectiveOperationException {
        Object got = MINE.get(name).invoke(x, args), want = DUE.get(name).invoke(model, args);
        said.append(name).append(Arrays.toString(args)).append(" = ").append(got).append('\n');
        if (got.equals(want)) return true;
        System.out.println(said + "due is " + want);
        return false;
    }

    private boolean hasRoom(int more) {
        return calls.size() + more + QUESTIONS <= PROMISED;
    }

    /** Mostly near what fits, now and then just outside, seldom far away. */
    private int near(int least, int most) {
        int dice = random.nextInt(40);
        if (dice == 0) return random.nextInt();
        if (dice == 1) return random.nextBoolean() ? Integer.MAX_VALUE : Integer.MIN_VALUE;
        if (dice == 2) return least - 1;
        if (dice == 3) return most + 1;
        return least + random.nextInt(most - least + 1);
    }

    private String randomLine() {
        String name = LINES[random.nextInt(random.nextInt(3) == 0 ? 4 : 8)];
        int first = name.equals("wall") ? near2(1, 12) : name.equals("roll") ? near2(1, 9) : near2(0, 9);
        String line = name + blanks() + first;
        if (Arrays.asList("wall", "window", "roll").contains(name)) {
            line += " " + blanks() + (name.equals("wall") ? near2(0, 5) : near2(1, 9));
        }
        return line + blanks() + ";" + blanks();
    }

    private int near2(int least, int most) {
        return random.nextInt(60) == 0 ? most + 1 : least + random.nextInt(most - least + 1);
    }

    private String blanks() {
        return random.nextInt(5) == 0 ? "  " : random.nextInt(3) == 0 ? " " : "";
    }

    private String randomText() {
        StringBuilder text = new StringBuilder();
        int lines = random.nextInt(12);
        for (int i = 0; i < lines; i++) text.append(randomLine());
        while (random.nextInt(3) == 0 && text.length() > 0) {
            int at = random.nextInt(text.length());
            String signs = ";; 0123plainwl#\tA";
            if (random.nextBoolean()) text.setCharAt(at, signs.charAt(random.nextInt(signs.length())));
            else if (random.nextBoolean()) text.deleteCharAt(at);
            else text.setLength(at);
        }
        return text.toString();
    }

    private boolean sameText(String text) throws ReflectiveOperationException {
        if (!hasRoom(text.length() + MOST_AT_ONCE)) return true;
        for (char c : text.toCharArray()) {
            if (!same("feed", (int) c)) return false;
        }
        return same("count", 2) && same("text") && same("fault");
    }

    private boolean randomCall() throws ReflectiveOperationException {
        switch (random.nextInt(42)) {
            case 0: return random.nextInt(4) != 0 || sameText(randomText());
            case 1: return same("feed", near(0, 127));
            case 2: return same("end", near(0, 12));
            case 3: return random.nextInt(6) != 0 || same("text");
            case 4: return same("rule", near(0, 8));
            case 5: return same("block", near(0, 5), near(0, 3));
            case 6: return same("place", near(0, 11), near(0, 2));
            case 7: return same("roll", near(0, 3), near(0, 1));
            case 8: return same("alter", near(0, 5), near(0, 1), near(0, 9));
            case 9: return same("set", near(0, 3), near(0, 12));
            case 10: return same("turn", random.nextInt(3) == 0 ? 99 : near(0, 11));
            case 11: return same("paint", near(0, 11), random.nextBoolean() ? near(0, 99) : near(0, 9));
            case 12: return same("print", near(0, 3), near(0, 9));
            case 13: return same("stock", near(1, 9), near(1, 9));
            case 14: return random.nextInt(4) != 0 || same("drop", near(0, 4));
            case 15: return same("years", random.nextInt(4) == 0 ? near(0, 30) : near(0, 3));
            case 16: return same("runs", near(0, 60), near(0, 3));
            case 17: return same("ahead", near(0, 11), near(0, 60));
            case 18: return same("fades", near(0, 11));
            case 19: return same("stretch", near(1, 12), near(0, 1));
            case 20: return same("hang", near(0, 1));
            case 21: return same("shade", near(0, 60), near(0, 1));
            case 22: return same("swap", near(0, 1));
            case 23: return same("period");
            case 24: return same("alike");
            case 25: return same("cover", near(0, 60), near(0, 1));
            case 26: return same("most", near(0, 3), near(0, 60));
            case 27: return sameLuck();
            case 28: return same("mean", near(0, 10), near(0, 11), near(0, 11), near(0, 1));
            case 29: return sameSee();
            case 30: return random.nextInt(3) != 0 || same("forget", near(0, 6));
            case 31: return same("kinds", near(0, 5));
            case 32: return same("warmths", near(0, 5));
            case 33: return same("shifts");
            case 34: return same("ask", near(0, 1));
            case 35: return same("drift", random.nextInt(), near(1, 60), near(0, 1));
            case 36: return same("keep", near(0, 1));
            case 37: return random.nextInt(3) != 0 || same("back", near(0, 1));
            case 38: return same("sheet", near(0, 3), near(0, 2), near(0, 40));
            case 39: return same("lay", near(0, 3), near(0, 11), random.nextInt(4) == 0 ? random.nextInt() : near(0, 5));
            case 40: return same("read", near(0, 3), near(0, 2), near(0, 40), near(0, 3)) && same("torn");
            default: return same("count", near(0, 5));
        }
    }

    private boolean sameLuck() throws ReflectiveOperationException {
        int a = near(0, 11), b = random.nextInt(8) == 0 ? near(0, 11) : Math.min(11, Math.max(a, near(0, 11)));
        int w = random.nextInt(6) == 0 ? near(0, 999) : near(0, Math.max(1, model.hall.all()));
        int v = near(0, 10);
        return same("luck", v, a, b, w, 0) && same("luck", v, a, b, w, 1) && same("luck", v, a, b, w, near(0, 1));
    }

    /** Half of what is seen is true by some shift, so that the questions behind it have answers. */
    private boolean sameSee() throws ReflectiveOperationException {
        int i = near(0, 11);
        boolean truth = Model.in(i, 0, 11) && random.nextInt(3) != 0;
        int v = truth ? model.shifted(random.nextInt(3) == 0 ? random.nextInt(6) : model.hall.shift).frank(i) : near(0, 99);
        return same("see", i, v);
    }

    /** A new object behind the same calls: the run's own has too few left to be asked for everything again and again. */
    private FriezeFolk twin() throws ReflectiveOperationException {
        FriezeFolk twin = new FriezeFolk();
        for (Call call : calls) call.mine().invoke(twin, call.args());
        return twin;
    }

    /** What is refused changes nothing, so all that can be asked is asked behind each call. */
    private boolean sameState() throws ReflectiveOperationException {
        FriezeFolk x = twin();
        for (int what = 0; what <= 8; what++) if (!sameOn(x, "rule", what)) return false;
        for (int what = 0; what <= 5; what++) if (!sameOn(x, "count", what)) return false;
        for (int i = 0; i < 12; i++) if (!sameOn(x, "place", i, 1) || !sameOn(x, "place", i, 2)) return false;
        for (int j = 0; j < 6; j++) if (!sameOn(x, "block", j, 0) || !sameOn(x, "block", j, 1)) return false;
        for (int k = 0; k < 4; k++) if (!sameOn(x, "roll", k, 0) || !sameOn(x, "roll", k, 1)) return false;
        return sameOn(x, "fault") && sameOn(x, "torn") && sameOn(x, "shifts");
    }

    private boolean holds() throws ReflectiveOperationException {
        if (random.nextBoolean() && !sameText(randomText())) return false;
        for (int call = 0; call < CALLS && hasRoom(MOST_AT_ONCE); call++) {
            if (!randomCall()) return false;
            int mark = said.length();
            if (!sameState()) return false;
            said.setLength(mark);
        }
        return true;
    }

    public static void main(String[] args) throws ReflectiveOperationException {
        for (int seed = 0; seed < RUNS; seed++) {
            if (!new ModelTest(seed).holds()) {
                System.out.println("by seed " + seed);
                System.exit(1);
            }
        }
        System.out.println("all answers are as the model's");
    }
}
