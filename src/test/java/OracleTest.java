import java.math.BigDecimal;
import java.math.BigInteger;
import java.util.ArrayDeque;
import java.util.ArrayList;
import java.util.Arrays;
import java.util.Collections;
import java.util.Deque;
import java.util.List;
import java.util.Random;

/**
 * Plays random runs on a ShareWheel and on a slow model beside it that is written another way: bits as texts,
 * every row tried by itself, copies instead of a ring. Every answer must be the same.
 */
public final class OracleTest {
    private static int wrong = 0;
    private static int asked = 0;

    public static void main(String[] args) {
        int runs = args.length > 0 ? Integer.parseInt(args[0]) : 700;
        for (int run = 0; run < runs && wrong < 20; run++) {
            new Run(run).play();
        }
        System.out.println("OracleTest: " + asked + " calls, " + wrong + " wrong");
        if (wrong != 0) {
            System.exit(1);
        }
    }

    // ------------------------------------------------------------------ the runs

    private static final class Run {
        final int number;
        final Random random;
        final ShareWheel wheel = new ShareWheel();
        final Model model = new Model();
        final StringBuilder log = new StringBuilder();
        int calls = 0;

        Run(int number) {
            this.number = number;
            this.random = new Random(7919L * number + 1);
        }

        void play() {
            int phases = 1 + random.nextInt(4);
            if (random.nextInt(4) == 0) {
                ask(20);
            }
            for (int p = 0; p < phases && calls < 460; p++) {
                tellWheel();
                ask(40 + random.nextInt(120));
            }
        }

        void due(String call, long got, long want) {
            asked++;
            calls++;
            log.append(call).append(" = ").append(want).append('\n');
            if (got != want) {
                wrong++;
                System.out.println("run " + number + ": " + call + " answered " + got + ", due is " + want);
                if (wrong == 1) {
                    System.out.println(log);
                }
            }
        }

        void feedBytes(byte[] bytes) {
            int at = 0;
            while (at < bytes.length) {
                int[] words = new int[5];
                for (int i = 0; i < 20; i++) {
                    int b = at + i < bytes.length ? bytes[at + i] & 255 : random.nextInt(256);
                    words[i / 4] |= b << (24 - 8 * (i % 4));
                }
                feed(words);
                at += 20;
            }
            end(bytes.length);
        }

        void feed(int[] w) {
            due("feed" + Arrays.toString(w), wheel.feed(w[0], w[1], w[2], w[3], w[4]), model.feed(w));
        }

        void end(int n) {
            due("end(" + n + ")", wheel.end(n) ? 1 : 0, model.end(n) ? 1 : 0);
        }

        void clearTape() {
            end(0);
        }

        // -------------------------------------------------------------- texts

        String blank(boolean needed) {
            int r = random.nextInt(12);
            String b = r == 0 ? "\n" : r == 1 ? "  " : r == 2 ? " \n " : needed || r == 3 ? " " : "";
            return needed && b.isEmpty() ? " " : b;
        }

        String name() {
            int n = random.nextInt(3) == 0 ? 1 + random.nextInt(6) : 1;
            StringBuilder b = new StringBuilder();
            for (int i = 0; i < n; i++) {
                b.append((char) ('a' + random.nextInt(26)));
            }
            return b.toString();
        }

        String number(int style) {
            switch (style) {
                case 0: return "" + random.nextInt(4);
                case 1: return "" + random.nextInt(12);
                case 2: return "" + random.nextInt(100);
                case 3: return "" + random.nextInt(10000);
                default: return String.format("%0" + (1 + random.nextInt(4)) + "d", random.nextInt(9));
            }
        }

        String text() {
            StringBuilder b = new StringBuilder();
            b.append(blank(false)).append("wheel").append(blank(true)).append("merge").append(blank(true));
            b.append(random.nextInt(random.nextInt(10) == 0 ? 18 : 5)).append(blank(false)).append(';');
            int n = random.nextInt(6) == 0 ? random.nextInt(17) : random.nextInt(6);
            if (random.nextInt(30) == 0) {
                n = 17;
            }
            int style = random.nextInt(5);
            List<String> names = new ArrayList<>();
            for (int i = 0; i < n; i++) {
                String name = name();
                if (names.contains(name) && random.nextInt(20) != 0) {
                    i--;
                    continue;
                }
                names.add(name);
                b.append(blank(false)).append("thing").append(blank(true)).append(name).append(blank(true));
                b.append("weighs").append(blank(true)).append(number(style));
                if (random.nextInt(4) == 0) {
                    int by = random.nextInt(25) == 0 ? random.nextInt(1100) : 1 << random.nextInt(11);
                    b.append(blank(true)).append("by").append(blank(true)).append(by);
                }
                b.append(blank(false)).append(';');
            }
            int teams = names.isEmpty() ? 0 : random.nextInt(random.nextInt(12) == 0 ? 6 : 4);
            for (int t = 0; t < teams; t++) {
                b.append(blank(false)).append("team").append(blank(true)).append(name() + (char) ('a' + t));
                b.append(blank(true)).append("of").append(blank(true));
                List<String> members = new ArrayList<>(names);
                Collections.shuffle(members, random);
                int size = 1 + random.nextInt(members.size());
                for (int i = 0; i < size; i++) {
                    b.append(i == 0 ? "" : blank(false) + "," + blank(false)).append(members.get(i));
                }
                b.append(blank(false)).append(';');
            }
            return b.append(blank(false)).toString();
        }

        String spoilt(String text) {
            StringBuilder b = new StringBuilder(text);
            int changes = 1 + random.nextInt(2);
            String signs = "abyof0129;;,, \n  wheel{A~";
            for (int i = 0; i < changes && b.length() > 0; i++) {
                int at = random.nextInt(b.length());
                char sign = signs.charAt(random.nextInt(signs.length()));
                switch (random.nextInt(5)) {
                    case 0: b.deleteCharAt(at); break;
                    case 1: b.insert(at, sign); break;
                    case 2: b.setCharAt(at, sign); break;
                    case 3: b.setLength(at); break;
                    default: b.insert(at, words(random.nextInt(7)));
                }
            }
            return b.toString();
        }

        String words(int k) {
            return new String[] {"wheel", "merge", "thing", "weighs", "by", "team", "of"}[k];
        }

        void tellWheel() {
            clearTape();
            if (random.nextInt(3) == 0) {
                tellText(spoilt(text()));
            }
            for (int i = 0; i < 4; i++) {
                if (tellText(text()) >= 0) {
                    return;
                }
            }
        }

        long tellText(String text) {
            if (text.length() > 1200) {
                return -1;
            }
            feedBytes(text.getBytes(java.nio.charset.StandardCharsets.ISO_8859_1));
            long want = model.wheel();
            due("wheel() of " + text.replace("\n", "\\n"), wheel.wheel(), want);
            due("fault(0)", wheel.fault(0), model.fault(0));
            due("fault(1)", wheel.fault(1), model.fault(1));
            return want;
        }

        // -------------------------------------------------------------- arguments

        int odd() {
            int[] some = {-1, -2, 0, 1, 16, 17, 255, 256, 1000, Integer.MAX_VALUE, Integer.MIN_VALUE, -1000000,
                65535, 31, 32, 33};
            return some[random.nextInt(some.length)];
        }

        int thing() {
            int n = model.things();
            return random.nextInt(15) == 0 ? odd() : n == 0 ? random.nextInt(2) : random.nextInt(n);
        }

        int team() {
            return random.nextInt(15) == 0 ? odd() : random.nextInt(Math.max(1, model.masks.size()));
        }

        int what(int most) {
            return random.nextInt(25) == 0 ? odd() : random.nextInt(most + 1);
        }

        int weight() {
            switch (random.nextInt(7)) {
                case 0: return odd();
                case 1: return random.nextInt(10238980);
                case 2: return 10238976 - 1 + random.nextInt(3);
                case 3: return random.nextInt(4000);
                default: return 1024 * random.nextInt(12);
            }
        }

        int rowSize() {
            int r = random.nextInt(30);
            return r == 0 ? odd() : r < 3 ? 12 : random.nextInt(10);
        }

        byte[] bytes(int most) {
            byte[] b = new byte[random.nextInt(most + 1)];
            random.nextBytes(b);
            if (random.nextInt(6) == 0) {
                Arrays.fill(b, (byte) 0);
            }
            if (random.nextInt(8) == 0) {
                Arrays.fill(b, (byte) 255);
            }
            return b;
        }

        long doubleBits() {
            switch (random.nextInt(12)) {
                case 0: return random.nextLong();
                case 1: return Double.doubleToRawLongBits(random.nextInt(12000) + random.nextDouble());
                case 2: return Double.doubleToRawLongBits(-random.nextInt(3) / 1024.0);
                case 3: {
                    double[] some = {0.0, -0.0, Double.NaN, Double.POSITIVE_INFINITY, Double.NEGATIVE_INFINITY,
                        Double.MIN_VALUE, Double.MAX_VALUE, 9999.0, Math.nextUp(9999.0), Math.nextDown(9999.0),
                        1 / 1024.0, Math.nextDown(1 / 1024.0), 2097152.0, Math.nextDown(2097152.0), 1e15, 1e16,
                        9007199254740992.0, 8796093022208.0, 1 / 2048.0, 9999.0 + 1 / 1024.0, 9999 + 1 / 2048.0,
                        Double.MIN_NORMAL, -Double.MIN_VALUE, 1e-300, 1.5 / 1024};
                    return Double.doubleToRawLongBits(some[random.nextInt(some.length)]);
                }
                case 4: return 0x7FF0000000000000L | random.nextInt(3) | (random.nextBoolean() ? 1L << 63 : 0);
                case 5: return Double.doubleToRawLongBits(random.nextInt(3000) / 1024.0);
                default: return Double.doubleToRawLongBits(random.nextInt(9));
            }
        }

        // -------------------------------------------------------------- calls

        void ask(int calls) {
            for (int i = 0; i < calls && this.calls < 505; i++) {
                int r = random.nextInt(100);
                if (r < 40) {
                    act();
                } else if (r < 55) {
                    askAll();
                } else if (r < 85) {
                    askBits();
                } else {
                    askShares();
                }
            }
        }

        void act() {
            switch (random.nextInt(13)) {
                case 0: case 1: case 2: case 3: {
                    int t = thing();
                    long d = doubleBits();
                    int high = (int) (d >> 32);
                    int low = (int) d;
                    due("set(" + t + ", " + high + ", " + low + ") " + Double.longBitsToDouble(d),
                            wheel.set(t, high, low), model.set(t, high, low));
                    int w = what(1);
                    due("why(" + w + ")", wheel.why(w), model.why(w));
                    due("has(8)", wheel.has(8), model.has(8));
                    break;
                }
                case 4: {
                    int n = random.nextInt(5) == 0 ? odd() : random.nextInt(5);
                    due("merge(" + n + ")", wheel.merge(n) ? 1 : 0, model.merge(n) ? 1 : 0);
                    break;
                }
                case 5:
                    due("merged()", wheel.merged() ? 1 : 0, model.merged() ? 1 : 0);
                    break;
                case 6: {
                    clearTape();
                    feedBytes(bytes(random.nextInt(8) == 0 ? 420 : 40));
                    due("store()", wheel.store(), model.store());
                    break;
                }
                case 7: case 8: {
                    for (int i = 0; i < 3; i++) {
                        int way = what(2);
                        due("pick(" + way + ")", wheel.pick(way), model.pick(way));
                    }
                    break;
                }
                case 9: {
                    int n = random.nextInt(6) == 0 ? odd() : 1 + random.nextInt(random.nextInt(4) == 0 ? 61 : 5);
                    int way = what(2);
                    if (model.wouldTakeLong()) {
                        break;
                    }
                    due("chance(" + n + ", " + way + ")", wheel.chance(n, way), model.chance(n, way));
                    due("has(14)", wheel.has(14), model.has(14));
                    break;
                }
                case 10:
                    for (int i = random.nextInt(random.nextInt(5) == 0 ? 22 : 3); i >= 0; i--) {
                        due("undo()", wheel.undo() ? 1 : 0, model.undo() ? 1 : 0);
                    }
                    break;
                case 11: {
                    int seed = random.nextInt(3) == 0 ? odd() : random.nextInt() >>> 1;
                    due("seed(" + seed + ")", wheel.seed(seed) ? 1 : 0, model.seed(seed) ? 1 : 0);
                    break;
                }
                default:
                    images();
            }
        }

        void images() {
            int size = model.image();
            due("image()", wheel.image(), size);
            int k = random.nextInt(3) == 0 ? odd() : random.nextInt(size + 1);
            due("octet(" + k + ")", wheel.octet(k), model.octet(k));
            if (random.nextInt(2) == 0) {
                return;
            }
            byte[] b = new byte[size];
            for (int i = 0; i < size; i++) {
                b[i] = (byte) model.octet(i);
            }
            for (int i = random.nextInt(5); i > 0; i--) {
                int at = random.nextInt(size);
                b[at] = (byte) (at % 4 == 1 ? random.nextInt(2) : random.nextInt(256));
            }
            if (random.nextInt(5) != 0) {
                int c = 179;
                for (int i = 0; i < size - 1; i++) {
                    c = (3 * c + (b[i] & 255)) % 251;
                }
                b[size - 1] = (byte) c;
            }
            if (random.nextInt(10) == 0) {
                b = Arrays.copyOf(b, random.nextInt(size + 9));
            }
            clearTape();
            feedBytes(b);
            due("on()", wheel.on() ? 1 : 0, model.on() ? 1 : 0);
        }

        void askAll() {
            int w = what(14);
            due("has(" + w + ")", wheel.has(w), model.has(w));
            int t = thing();
            int k = what(6);
            switch (random.nextInt(12)) {
                case 0: due("letter(" + t + ", " + k + ")", wheel.letter(t, k), model.letter(t, k)); break;
                case 1: due("thing(" + t + ", " + k + ")", wheel.thing(t, k), model.thing(t, k)); break;
                case 2: due("weight(" + t + ")", wheel.weight(t), model.weight(t)); break;
                case 3: case 4: {
                    int c = what(1);
                    due("column(" + t + ", " + c + ")", wheel.column(t, c), model.column(t, c));
                    break;
                }
                case 5: due("mass(" + t + ")", wheel.mass(t), model.mass(t)); break;
                case 6: due("rank(" + t + ")", wheel.rank(t), model.rank(t)); break;
                case 7: due("status(" + k + ")", wheel.status(k), model.status(k)); break;
                case 8: due("fault(" + k + ")", wheel.fault(k), model.fault(k)); break;
                case 9: due("why(" + k + ")", wheel.why(k), model.why(k)); break;
                case 10: {
                    int m = team();
                    due("called(" + m + ", " + k + ")", wheel.called(m, k), model.called(m, k));
                    break;
                }
                default: {
                    if (random.nextInt(30) == 0) {
                        for (int i = 0; i < 4; i++) {
                            feed(new int[] {random.nextInt(), random.nextInt(), 0, 1, 2});
                        }
                    }
                    if (random.nextInt(8) == 0) {
                        end(odd());
                    }
                }
            }
        }

        void askShares() {
            int t = thing();
            int w = what(1);
            int above = random.nextInt(8) == 0 ? odd() : random.nextInt(random.nextInt(2) == 0 ? 8 : 1002);
            int below = random.nextInt(8) == 0 ? odd() : random.nextInt(random.nextInt(2) == 0 ? 8 : 1002);
            int weight = weight();
            switch (random.nextInt(12)) {
                case 0: due("share(" + t + ", " + w + ")", wheel.share(t, w), model.share(t, w)); break;
                case 1: due("goes(" + w + ")", wheel.goes(w), model.goes(w)); break;
                case 2: {
                    int o = thing();
                    due("would(" + o + ", " + weight + ", " + t + ", " + w + ")",
                            wheel.would(o, weight, t, w), model.would(o, weight, t, w));
                    break;
                }
                case 3: case 4:
                    due("needs(" + t + ", " + above + ", " + below + ")",
                            wheel.needs(t, above, below), model.needs(t, above, below));
                    break;
                case 5:
                    due("merges(" + t + ", " + weight + ")", wheel.merges(t, weight), model.merges(t, weight));
                    break;
                case 6: due("owed(" + t + ")", wheel.owed(t), model.owed(t)); break;
                case 7: due("creditor(" + w + ")", wheel.creditor(w), model.creditor(w)); break;
                case 8: {
                    int m = team();
                    int x = what(4);
                    due("team(" + m + ", " + x + ")", wheel.team(m, x), model.team(m, x));
                    break;
                }
                case 9: {
                    int m = team();
                    due("inside(" + m + ", " + t + ", " + w + ")", wheel.inside(m, t, w), model.inside(m, t, w));
                    break;
                }
                case 10:
                    due("quorum(" + above + ", " + below + ", " + w + ")",
                            wheel.quorum(above, below, w), model.quorum(above, below, w));
                    break;
                default:
                    due("swings(" + t + ", " + above + ", " + below + ")",
                            wheel.swings(t, above, below), model.swings(t, above, below));
            }
        }

        void askBits() {
            int t = random.nextInt(5) == 0 ? -1 : thing();
            int w = what(1);
            int way = what(2);
            int k = rowSize();
            int m = team();
            switch (random.nextInt(12)) {
                case 0: case 1: {
                    clearTape();
                    feedBytes(bytes(random.nextInt(10) == 0 ? 110 : 12));
                    due("tries(" + way + ", " + w + ")", wheel.tries(way, w), model.tries(way, w));
                    due("end(1)", wheel.end(1) ? 1 : 0, 0);
                    model.end(1);
                    break;
                }
                case 2:
                    clearTape();
                    feedBytes(bytes(random.nextInt(10) == 0 ? 110 : 6));
                    due("triesIn(" + m + ", " + w + ")", wheel.triesIn(m, w), model.triesIn(m, w));
                    break;
                case 3: {
                    int b = what(3);
                    due("band(" + t + ", " + b + ")", wheel.band(t, b), model.band(t, b));
                    break;
                }
                case 4: {
                    clearTape();
                    feedBytes(bytes(random.nextInt(10) == 0 ? 110 : 12));
                    int d = random.nextInt(10) == 0 ? odd() : random.nextInt(4);
                    due("deals(" + d + ")", wheel.deals(d), model.deals(d));
                    break;
                }
                case 5: {
                    int o = thing();
                    due("pairs(" + k + ", " + t + ", " + o + ")", wheel.pairs(k, t, o), model.pairs(k, t, o));
                    break;
                }
                case 6:
                    due("rows(" + way + ", " + k + ", " + t + ")", wheel.rows(way, k, t), model.rows(way, k, t));
                    break;
                case 7:
                    due("rowsIn(" + m + ", " + k + ", " + t + ")", wheel.rowsIn(m, k, t), model.rowsIn(m, k, t));
                    break;
                case 8:
                    due("fewest(" + way + ", " + t + ", " + w + ")",
                            wheel.fewest(way, t, w), model.fewest(way, t, w));
                    break;
                case 9:
                    due("longest(" + way + ", " + k + ", " + w + ")",
                            wheel.longest(way, k, w), model.longest(way, k, w));
                    break;
                default:
                    sights();
            }
        }

        void sights() {
            if (random.nextInt(3) == 0) {
                int u = thing();
                byte[] b = bytes(random.nextInt(6) == 0 ? 44 : 6);
                for (int i = 1; i < b.length; i += 2) {
                    int honest = model.comesTo(b[i - 1] & 255);
                    int r = random.nextInt(12);
                    b[i] = (byte) (r == 0 ? 255 : r == 1 ? random.nextInt(18) : honest);
                }
                if (b.length % 2 != 0 && random.nextInt(4) != 0) {
                    b = Arrays.copyOf(b, b.length - 1);
                }
                clearTape();
                feedBytes(b);
                due("see(" + u + ")", wheel.see(u), model.see(u));
            }
            int k = random.nextInt(10) == 0 ? odd() : random.nextInt(9) - 1;
            due("fits(" + k + ")", wheel.fits(k), model.fits(k));
            int w = what(1);
            due("tells(" + w + ")", wheel.tells(w), model.tells(w));
        }
    }

    // ------------------------------------------------------------------ the model

    private static final int MOST = 9999 * 1024;

    /** A row of bits that is read from its front. */
    private static class Bits {
        final String bits;
        int at = 0;

        Bits(String bits) {
            this.bits = bits;
        }

        String take(int n) {
            if (at + n > bits.length()) {
                throw new OutOfBits();
            }
            at += n;
            return bits.substring(at - n, at);
        }

        int draw(long m) {
            String less = m == 1 ? "" : Long.toBinaryString(m - 1);
            while (true) {
                String taken = take(less.length());
                long x = taken.isEmpty() ? 0 : Long.parseLong(taken, 2);
                if (x < m) {
                    return (int) x;
                }
            }
        }
    }

    private static final class OutOfBits extends RuntimeException {
        private static final long serialVersionUID = 1L;
    }

    private static final class Seeded extends Bits {
        long x;

        Seeded(long x) {
            super("");
            this.x = x;
        }

        @Override
        String take(int n) {
            StringBuilder b = new StringBuilder();
            for (int i = 0; i < n; i++) {
                x = BigInteger.valueOf(x).multiply(BigInteger.valueOf(1103515245L)).add(BigInteger.valueOf(12345))
                        .mod(BigInteger.ONE.shiftLeft(31)).longValue();
                b.append(x / 65536 % 2);
            }
            at += n;
            return b.toString();
        }
    }

    /** A fault of a text. */
    private static final class Fault extends RuntimeException {
        private static final long serialVersionUID = 1L;
        final int kind;
        final int place;

        Fault(int kind, int place) {
            this.kind = kind;
            this.place = place;
        }
    }

    private static final class Memory {
        List<Integer> old = new ArrayList<>();
        List<Integer> now = new ArrayList<>();
        List<Integer> counts = new ArrayList<>();
        String stored = "";
        int limit;
        int mergings;
        int taken;

        Memory copy() {
            Memory m = new Memory();
            m.old = new ArrayList<>(old);
            m.now = new ArrayList<>(now);
            m.counts = new ArrayList<>(counts);
            m.stored = stored;
            m.limit = limit;
            m.mergings = mergings;
            m.taken = taken;
            return m;
        }
    }

    private static final class Model {
        final List<Integer> tape = new ArrayList<>();
        boolean told = false;
        List<String> names = new ArrayList<>();
        List<String> teams = new ArrayList<>();
        List<Integer> masks = new ArrayList<>();
        Memory mem = new Memory();
        Deque<Memory> past = new ArrayDeque<>();
        int seed = 1;
        int fault = 0;
        int place = -1;
        int reason = 0;
        int cause = 0;
        List<int[]> seen = new ArrayList<>();
        int unknown;
        int[] refused = new int[6];
        int[] image = new int[0];

        int refuse(int k) {
            refused[k]++;
            return -1;
        }

        int things() {
            return names.size();
        }

        boolean isThing(int t) {
            return t >= 0 && t < things();
        }

        int feed(int[] words) {
            if (tape.size() + 20 > 1200) {
                return refuse(0);
            }
            for (int w : words) {
                for (int s = 24; s >= 0; s -= 8) {
                    tape.add(w >>> s & 255);
                }
            }
            return tape.size();
        }

        boolean end(int n) {
            if (n < 0 || n > tape.size()) {
                refuse(0);
                return false;
            }
            while (tape.size() > n) {
                tape.remove(tape.size() - 1);
            }
            return true;
        }

        List<Integer> takeTape() {
            List<Integer> t = new ArrayList<>(tape);
            tape.clear();
            return t;
        }

        // -------------------------------------------------------------- text

        /** Pieces of the text: a word, a number, one other sign, or the end. */
        static final class Piece {
            String text;
            int at;
            boolean touches;

            boolean word() {
                return text.matches("[a-z]+");
            }

            boolean number() {
                return text.matches("[0-9]+");
            }
        }

        static List<Piece> pieces(List<Integer> bytes) {
            List<Piece> all = new ArrayList<>();
            int i = 0;
            char[] kinds = new char[bytes.size()];
            for (int k = 0; k < kinds.length; k++) {
                int b = bytes.get(k);
                kinds[k] = b == 10 || b == 32 ? ' ' : b >= 'a' && b <= 'z' ? 'w' : b >= '0' && b <= '9' ? 'n' : 's';
            }
            while (i < kinds.length) {
                if (kinds[i] == ' ') {
                    i++;
                    continue;
                }
                Piece p = new Piece();
                p.at = i;
                p.touches = i > 0 && kinds[i] != 's' && (kinds[i - 1] == 'w' || kinds[i - 1] == 'n');
                StringBuilder b = new StringBuilder();
                do {
                    b.append((char) (int) bytes.get(i));
                    i++;
                } while (i < kinds.length && kinds[i] == kinds[i - 1] && kinds[i] != 's');
                p.text = b.toString();
                if (kinds[p.at] == 's' && bytes.get(p.at) > 127) {
                    p.text = "?";
                }
                all.add(p);
            }
            Piece last = new Piece();
            last.text = "";
            last.at = kinds.length;
            all.add(last);
            return all;
        }

        static final List<String> OWN = List.of("wheel", "merge", "thing", "weighs", "by", "team", "of");

        List<Piece> line;
        int next;

        Piece literal(String text) {
            Piece p = line.get(next);
            if (!p.text.equals(text) || p.touches) {
                throw new Fault(1, p.at);
            }
            next++;
            return p;
        }

        Piece someName() {
            Piece p = line.get(next);
            if (!p.word() || OWN.contains(p.text)) {
                throw new Fault(1, p.at);
            }
            if (p.text.length() > 6) {
                throw new Fault(1, p.at + 6);
            }
            next++;
            return p;
        }

        int someNumber(List<Integer> allowed) {
            Piece p = line.get(next);
            if (!p.number() || p.touches) {
                throw new Fault(1, p.at);
            }
            if (p.text.length() > 4) {
                throw new Fault(1, p.at + 4);
            }
            int n = Integer.parseInt(p.text);
            if (allowed != null && !allowed.contains(n)) {
                throw new Fault(2, p.at);
            }
            next++;
            return n;
        }

        int wheel() {
            line = pieces(takeTape());
            next = 0;
            fault = 0;
            place = -1;
            try {
                return parse();
            } catch (Fault f) {
                fault = f.kind;
                place = f.place;
                return refuse(1);
            }
        }

        int parse() {
            List<Integer> upTo16 = new ArrayList<>();
            for (int i = 0; i <= 16; i++) {
                upTo16.add(i);
            }
            Memory m = new Memory();
            List<String> newNames = new ArrayList<>();
            List<String> newTeams = new ArrayList<>();
            List<Integer> newMasks = new ArrayList<>();
            literal("wheel");
            literal("merge");
            m.limit = someNumber(upTo16);
            literal(";");
            int statements = 1;
            while (!line.get(next).text.isEmpty()) {
                Piece first = line.get(next++);
                if (first.text.equals("thing")) {
                    if (newNames.size() == 16) {
                        throw new Fault(5, first.at);
                    }
                    Piece name = someName();
                    if (newNames.contains(name.text) || newTeams.contains(name.text)) {
                        throw new Fault(3, name.at);
                    }
                    literal("weighs");
                    int w = someNumber(null) * 1024;
                    if (line.get(next).text.equals("by")) {
                        literal("by");
                        w /= someNumber(List.of(1, 2, 4, 8, 16, 32, 64, 128, 256, 512, 1024));
                    }
                    newNames.add(name.text);
                    m.old.add(w);
                    m.now.add(w);
                    m.counts.add(0);
                } else if (first.text.equals("team")) {
                    if (newTeams.size() == 4) {
                        throw new Fault(5, first.at);
                    }
                    Piece name = someName();
                    if (newNames.contains(name.text) || newTeams.contains(name.text)) {
                        throw new Fault(3, name.at);
                    }
                    literal("of");
                    List<String> members = new ArrayList<>();
                    int mask = 0;
                    do {
                        if (!members.isEmpty()) {
                            literal(",");
                        }
                        Piece member = someName();
                        if (!newNames.contains(member.text) || members.contains(member.text)) {
                            throw new Fault(3, member.at);
                        }
                        members.add(member.text);
                        mask += 1 << newNames.indexOf(member.text);
                    } while (line.get(next).text.equals(","));
                    newTeams.add(name.text);
                    newMasks.add(mask);
                } else {
                    throw new Fault(1, first.at);
                }
                literal(";");
                statements++;
            }
            told = true;
            names = newNames;
            teams = newTeams;
            masks = newMasks;
            mem = m;
            past.clear();
            seen.clear();
            return statements;
        }

        int fault(int what) {
            return what == 0 ? fault : what == 1 ? place : -1;
        }

        // -------------------------------------------------------------- sums

        static int sum(List<Integer> list) {
            return list.stream().mapToInt(Integer::intValue).sum();
        }

        int more(int i) {
            return Math.max(mem.now.get(i) - mem.old.get(i), 0);
        }

        int less(int i) {
            return Math.max(mem.old.get(i) - mem.now.get(i), 0);
        }

        int p() {
            int s = 0;
            for (int i = 0; i < things(); i++) {
                s += more(i);
            }
            return s;
        }

        int q() {
            int s = 0;
            for (int i = 0; i < things(); i++) {
                s += less(i);
            }
            return s;
        }

        int unlike() {
            int s = 0;
            for (int i = 0; i < things(); i++) {
                s += mem.old.get(i).equals(mem.now.get(i)) ? 0 : 1;
            }
            return s;
        }

        int grain() {
            BigInteger g = BigInteger.ZERO;
            for (int i = 0; i < things(); i++) {
                g = g.gcd(BigInteger.valueOf(mem.old.get(i))).gcd(BigInteger.valueOf(mem.now.get(i)));
            }
            return g.signum() == 0 ? 1 : g.intValue();
        }

        int total() {
            return sum(mem.now);
        }

        int has(int what) {
            if (what == 14) {
                return seed;
            }
            if (what < 0 || what > 14) {
                return -1;
            }
            if (!told) {
                return 0;
            }
            int[] all = {things(), mem.limit, total(), sum(mem.old), p(), q(), grain(), unlike(), mem.mergings,
                mem.stored.length(), sum(mem.counts), mem.taken, seen.size(), past.size()};
            return all[what];
        }

        static int letterOf(String name, int k) {
            return k < 0 || k > 5 ? -1 : k < name.length() ? name.charAt(k) - 96 : 0;
        }

        int letter(int t, int k) {
            return isThing(t) ? letterOf(names.get(t), k) : -1;
        }

        int called(int t, int k) {
            return t >= 0 && t < teams.size() ? letterOf(teams.get(t), k) : -1;
        }

        int thing(int t, int what) {
            if (!isThing(t) || what < 0 || what > 4) {
                return -1;
            }
            return new int[] {mem.old.get(t), mem.now.get(t), more(t), less(t), mem.counts.get(t)}[what];
        }

        long weight(int t) {
            return isThing(t) ? Double.doubleToLongBits(mem.now.get(t) / 1024.0) : -1;
        }

        /** OWN and ALIAS of each column; none without T. */
        int[][] table() {
            int n = things();
            int t = sum(mem.old);
            if (t == 0) {
                return new int[0][];
            }
            int[] rest = new int[n];
            int[][] columns = new int[n][];
            for (int i = 0; i < n; i++) {
                rest[i] = n * mem.old.get(i);
            }
            while (true) {
                int poor = -1;
                int rich = -1;
                for (int i = n - 1; i >= 0; i--) {
                    if (columns[i] == null && rest[i] < t) {
                        poor = i;
                    }
                    if (columns[i] == null && rest[i] > t) {
                        rich = i;
                    }
                }
                if (poor < 0) {
                    break;
                }
                columns[poor] = new int[] {rest[poor], rich};
                rest[rich] -= t - rest[poor];
            }
            for (int i = 0; i < n; i++) {
                if (columns[i] == null) {
                    columns[i] = new int[] {t, i};
                }
            }
            return columns;
        }

        int column(int c, int what) {
            int[][] t = table();
            if (c < 0 || c >= t.length || what < 0 || what > 1) {
                return -1;
            }
            return what == 0 ? t[c][0] / grain() : t[c][1];
        }

        int mass(int t) {
            return isThing(t) && sum(mem.old) > 0 ? things() * (mem.old.get(t) / grain()) : -1;
        }

        List<Integer> ranking() {
            List<Integer> all = new ArrayList<>();
            for (int i = 0; i < things(); i++) {
                all.add(i);
            }
            all.sort((a, b) -> mem.now.get(b) - mem.now.get(a));
            return all;
        }

        int rank(int k) {
            return isThing(k) ? ranking().get(k) : -1;
        }

        // -------------------------------------------------------------- shares

        static int fraction(long above, long below, int what) {
            if (below == 0 || what < 0 || what > 1) {
                return -1;
            }
            BigInteger g = BigInteger.valueOf(above).gcd(BigInteger.valueOf(below));
            return (int) ((what == 0 ? above : below) / g.longValue());
        }

        int share(int t, int what) {
            return isThing(t) ? fraction(mem.now.get(t), total(), what) : -1;
        }

        int goes(int what) {
            return fraction(sum(mem.old) + (long) p(), total(), what);
        }

        int would(int one, int w, int t, int what) {
            if (!isThing(one) || !isThing(t) || w < 0 || w > MOST) {
                return -1;
            }
            List<Integer> other = new ArrayList<>(mem.now);
            other.set(one, w);
            return fraction(other.get(t), sum(other), what);
        }

        int needs(int t, int above, int below) {
            if (!isThing(t) || above < 0 || above > 1000 || below < 1 || below > 1000) {
                return -1;
            }
            long others = total() - mem.now.get(t);
            int low = 0;
            int high = MOST + 1;
            while (low < high) {
                int mid = (low + high) / 2;
                if (mid + others > 0 && (long) mid * below >= above * (mid + others)) {
                    high = mid;
                } else {
                    low = mid + 1;
                }
            }
            return low > MOST ? -1 : low;
        }

        boolean mustMerge() {
            return unlike() > mem.limit || 4L * q() > sum(mem.old);
        }

        int merges(int t, int w) {
            if (!isThing(t) || w < 0 || w > MOST) {
                return -1;
            }
            int kept = mem.now.get(t);
            mem.now.set(t, w);
            boolean must = mustMerge();
            mem.now.set(t, kept);
            return must ? 1 : 0;
        }

        int owed(int t) {
            if (!isThing(t) || total() == 0) {
                return -1000000;
            }
            return BigInteger.valueOf(mem.now.get(t)).multiply(BigInteger.valueOf(sum(mem.counts)))
                    .divide(BigInteger.valueOf(total())).intValue() - mem.counts.get(t);
        }

        int creditor(int what) {
            if (total() == 0 || what < 0 || what > 1) {
                return -1;
            }
            int found = 0;
            for (int i = 0; i < things(); i++) {
                if (what == 0 && owed(i) > owed(found) || what == 1 && owed(i) < owed(found)) {
                    found = i;
                }
            }
            return found;
        }

        // -------------------------------------------------------------- teams

        List<Integer> members(int team) {
            List<Integer> all = new ArrayList<>();
            if (team >= 0 && team < teams.size()) {
                for (int i = 0; i < 16; i++) {
                    if ((masks.get(team) >> i & 1) != 0) {
                        all.add(i);
                    }
                }
            }
            return all;
        }

        int team(int team, int what) {
            List<Integer> all = members(team);
            if (all.isEmpty()) {
                return -1;
            }
            switch (what) {
                case 0: return masks.get(team);
                case 1: return all.stream().mapToInt(i -> mem.now.get(i)).sum();
                case 2: return all.stream().mapToInt(i -> mem.counts.get(i)).sum();
                case 3: return ranking().stream().filter(all::contains).findFirst().get();
                default: return -1;
            }
        }

        int inside(int team, int t, int what) {
            return members(team).contains(t) ? fraction(mem.now.get(t), team(team, 1), what) : -1;
        }

        int triesIn(int team, int what) {
            List<Integer> bytes = takeTape();
            if (bytes.size() > 100 || team(team, 1) <= 0) {
                return -1;
            }
            return answer(new Bits(text(bytes)), 3, members(team), what);
        }

        int rowsIn(int team, int k, int t) {
            if (team(team, 1) <= 0 || k < 0 || k > 12 || t != -1 && !isThing(t)) {
                return -1;
            }
            int s = 0;
            for (String row : rowsOf(k)) {
                s += pickOf(new Bits(row), 3, members(team)) == (t == -1 ? -2 : t) ? 1 : 0;
            }
            return s;
        }

        int quorum(int above, int below, int what) {
            if (total() == 0 || above < 0 || above > 1000 || below < 1 || below > 1000 || what < 0 || what > 1) {
                return -1;
            }
            for (int k = 0; k <= things(); k++) {
                int mask = 0;
                for (int i : ranking().subList(0, k)) {
                    mask |= 1 << i;
                }
                if (reached(mask, above, below)) {
                    return what == 0 ? k : mask;
                }
            }
            return -1;
        }

        boolean reached(int mask, int above, int below) {
            long s = 0;
            for (int i = 0; i < things(); i++) {
                s += (mask >> i & 1) * (long) mem.now.get(i);
            }
            return s * below >= above * (long) total();
        }

        int swings(int t, int above, int below) {
            if (total() == 0 || !isThing(t) || above < 0 || above > 1000 || below < 1 || below > 1000) {
                return -1;
            }
            int s = 0;
            for (int mask = 0; mask < 1 << things(); mask++) {
                if ((mask >> t & 1) != 0 && reached(mask, above, below) && !reached(mask - (1 << t), above, below)) {
                    s++;
                }
            }
            return s;
        }

        // -------------------------------------------------------------- picks

        static String text(List<Integer> bytes) {
            StringBuilder b = new StringBuilder();
            for (int v : bytes) {
                b.append(Integer.toBinaryString(256 + v).substring(1));
            }
            return b.toString();
        }

        static List<String> rowsOf(int k) {
            List<String> all = new ArrayList<>();
            for (int i = 0; i < 1 << k; i++) {
                all.add(Integer.toBinaryString((1 << k) + i).substring(1));
            }
            return all;
        }

        int pickOf(Bits bits, int way, List<Integer> members) {
            try {
                switch (way) {
                    case 0: return byTable(bits);
                    case 1: return byParts(bits, everyone());
                    case 2: return byBands(bits);
                    default: return byParts(bits, members);
                }
            } catch (OutOfBits e) {
                return -2;
            }
        }

        int answer(Bits bits, int way, List<Integer> members, int what) {
            if (what < 0 || what > 1) {
                return -1;
            }
            int picked = pickOf(bits, way, members);
            return what == 0 ? picked : picked == -2 ? bits.bits.length() : bits.at;
        }

        List<Integer> everyone() {
            List<Integer> all = new ArrayList<>();
            for (int i = 0; i < things(); i++) {
                all.add(i);
            }
            return all;
        }

        int byParts(Bits bits, List<Integer> members) {
            int g = grain();
            long m = 0;
            for (int i : members) {
                m += mem.now.get(i) / g;
            }
            int x = bits.draw(m);
            long upTo = 0;
            for (int i : members) {
                upTo += mem.now.get(i) / g;
                if (x < upTo) {
                    return i;
                }
            }
            throw new IllegalStateException();
        }

        int byTable(Bits bits) {
            int g = grain();
            int t = sum(mem.old) / g;
            int[][] table = table();
            while (true) {
                int x = bits.draw(t + p() / g);
                if (x >= t) {
                    int upTo = t;
                    for (int i = 0; i < things(); i++) {
                        upTo += more(i) / g;
                        if (x < upTo) {
                            return i;
                        }
                    }
                }
                int[] column = table[bits.draw(things())];
                int met = bits.draw(t) < column[0] / g ? Arrays.asList(table).indexOf(column) : column[1];
                if (less(met) == 0 || bits.draw(mem.old.get(met) / g) >= less(met) / g) {
                    return met;
                }
            }
        }

        static int bandOf(int part) {
            return Integer.toBinaryString(part).length() - 1;
        }

        List<Integer> inBand(int b) {
            List<Integer> all = new ArrayList<>();
            for (int i = 0; i < things(); i++) {
                if (mem.now.get(i) > 0 && bandOf(mem.now.get(i) / grain()) == b) {
                    all.add(i);
                }
            }
            return all;
        }

        int sumOf(List<Integer> list) {
            return list.stream().mapToInt(i -> mem.now.get(i) / grain()).sum();
        }

        int byBands(Bits bits) {
            int g = grain();
            int x = bits.draw(total() / g);
            int b = 0;
            int upTo = sumOf(inBand(0));
            while (x >= upTo) {
                b++;
                upTo += sumOf(inBand(b));
            }
            List<Integer> all = inBand(b);
            while (true) {
                int i = all.get(bits.draw(all.size()));
                if (bits.draw(1L << (b + 1)) < mem.now.get(i) / g) {
                    return i;
                }
            }
        }

        int tries(int way, int what) {
            List<Integer> bytes = takeTape();
            if (bytes.size() > 100 || total() == 0 || way < 0 || way > 2) {
                return -1;
            }
            return answer(new Bits(text(bytes)), way, null, what);
        }

        int band(int t, int what) {
            if (!isThing(t) || mem.now.get(t) == 0 || what < 0 || what > 2) {
                return -1;
            }
            int b = bandOf(mem.now.get(t) / grain());
            return what == 0 ? b : what == 1 ? inBand(b).size() : sumOf(inBand(b));
        }

        /** A DEAL as far as it goes: THINGS, then OPEN or NONE. */
        List<Integer> dealOf(Bits bits) {
            List<Integer> dealt = new ArrayList<>();
            List<Integer> left = everyone();
            while (true) {
                if (sumOf(left) == 0) {
                    dealt.add(-1);
                    return dealt;
                }
                int one = pickOf(bits, 3, left);
                dealt.add(one);
                if (one == -2) {
                    return dealt;
                }
                left.remove((Integer) one);
            }
        }

        int deals(int k) {
            List<Integer> bytes = takeTape();
            if (bytes.size() > 100 || total() == 0 || k < 0) {
                return -1;
            }
            List<Integer> dealt = dealOf(new Bits(text(bytes)));
            return dealt.get(Math.min(k, dealt.size() - 1));
        }

        int pairs(int k, int first, int other) {
            if (total() == 0 || k < 0 || k > 12 || !isThing(first) || !isThing(other)) {
                return -1;
            }
            int s = 0;
            for (String row : rowsOf(k)) {
                List<Integer> dealt = dealOf(new Bits(row));
                s += dealt.size() > 1 && dealt.get(0) == first && dealt.get(1) == other ? 1 : 0;
            }
            return s;
        }

        boolean badRows(int way, int k) {
            return total() == 0 || way < 0 || way > 2 || k < 0 || k > 12;
        }

        int rows(int way, int k, int t) {
            if (badRows(way, k) || t != -1 && !isThing(t)) {
                return -1;
            }
            int s = 0;
            for (String row : rowsOf(k)) {
                s += pickOf(new Bits(row), way, null) == (t == -1 ? -2 : t) ? 1 : 0;
            }
            return s;
        }

        int fewest(int way, int t, int what) {
            if (badRows(way, 0) || !isThing(t) || what < 0 || what > 1) {
                return -1;
            }
            for (int k = 0; k <= 12; k++) {
                List<String> all = rowsOf(k);
                for (int row = 0; row < all.size(); row++) {
                    if (pickOf(new Bits(all.get(row)), way, null) == t) {
                        return what == 0 ? k : row;
                    }
                }
            }
            return -1;
        }

        int longest(int way, int k, int what) {
            if (badRows(way, k) || what < 0 || what > 1) {
                return -1;
            }
            int found = -1;
            int most = -1;
            List<String> all = rowsOf(k);
            for (int row = 0; row < all.size(); row++) {
                Bits bits = new Bits(all.get(row));
                if (pickOf(bits, way, null) != -2 && bits.at > most) {
                    most = bits.at;
                    found = row;
                }
            }
            return what == 0 ? found : most;
        }

        // -------------------------------------------------------------- what was seen

        int comesTo(int b) {
            if (total() == 0) {
                return 255;
            }
            int picked = pickOf(new Bits(text(List.of(b))), 1, null);
            return picked == -2 ? 255 : picked;
        }

        int see(int u) {
            List<Integer> bytes = takeTape();
            boolean good = isThing(u) && bytes.size() >= 2 && bytes.size() <= 40 && bytes.size() % 2 == 0;
            List<int[]> rows = new ArrayList<>();
            for (int i = 0; i + 1 < bytes.size(); i += 2) {
                good &= isThing(bytes.get(i + 1)) || bytes.get(i + 1) == 255;
                rows.add(new int[] {bytes.get(i), bytes.get(i + 1)});
            }
            if (!good) {
                return refuse(5);
            }
            seen = rows;
            unknown = u;
            return rows.size();
        }

        List<Integer> allFits() {
            List<Integer> all = new ArrayList<>();
            int kept = mem.now.get(unknown);
            for (int w = 0; w < 32; w++) {
                mem.now.set(unknown, w * 1024);
                boolean so = total() > 0;
                for (int[] row : seen) {
                    so = so && comesTo(row[0]) == row[1];
                }
                if (so) {
                    all.add(w);
                }
            }
            mem.now.set(unknown, kept);
            return all;
        }

        int fits(int k) {
            if (seen.isEmpty()) {
                return -1;
            }
            List<Integer> all = allFits();
            return k == -1 ? all.size() : k >= 0 && k < all.size() ? all.get(k) : -1;
        }

        int tells(int what) {
            if (seen.isEmpty() || what < 0 || what > 1) {
                return -1;
            }
            List<Integer> all = allFits();
            if (all.isEmpty()) {
                return -1;
            }
            int kept = mem.now.get(unknown);
            int[][] by = new int[256][256];
            for (int w : all) {
                mem.now.set(unknown, w * 1024);
                for (int b = 0; b < 256; b++) {
                    by[b][comesTo(b)]++;
                }
            }
            mem.now.set(unknown, kept);
            int best = -1;
            int least = 1000;
            for (int b = 0; b < 256; b++) {
                int most = Arrays.stream(by[b]).max().getAsInt();
                if (most < least) {
                    least = most;
                    best = b;
                }
            }
            return what == 0 ? best : least;
        }

        // -------------------------------------------------------------- acts

        void act() {
            past.addLast(mem.copy());
            if (past.size() > 20) {
                past.removeFirst();
            }
        }

        void settle() {
            if (mustMerge()) {
                mem.old = new ArrayList<>(mem.now);
                mem.mergings++;
            }
        }

        int judge(int t, double d) {
            cause = 0;
            if (!isThing(t)) {
                return 1;
            }
            if (Double.isNaN(d)) {
                return 2;
            }
            if (Double.isInfinite(d)) {
                return 3;
            }
            if (d < 0) {
                return 4;
            }
            BigDecimal parts = new BigDecimal(d).multiply(BigDecimal.valueOf(1024));
            BigInteger cut = parts.toBigInteger();
            if (parts.compareTo(BigDecimal.valueOf(MOST)) > 0) {
                cause = cut.bitLength() > 31 ? 1 : 0;
                return 5;
            }
            if (parts.compareTo(new BigDecimal(cut)) != 0) {
                cause = parts.compareTo(BigDecimal.ONE) < 0 ? 2 : 0;
                return 6;
            }
            return cut.intValue() == mem.now.get(t) ? 7 : 0;
        }

        int set(int t, int high, int low) {
            double d = Double.longBitsToDouble((long) high << 32 | low & 0xFFFFFFFFL);
            int oldCause = cause;
            int r = judge(t, d);
            if (r != 0) {
                reason = r;
                return refuse(2);
            }
            cause = oldCause;
            act();
            int parts = (int) (d * 1024);
            mem.now.set(t, parts);
            settle();
            return parts;
        }

        int why(int what) {
            return what == 0 ? reason : what == 1 ? cause : -1;
        }

        boolean merge(int n) {
            if (!told || n < 0 || n > 16 || n == mem.limit) {
                refuse(3);
                return false;
            }
            act();
            mem.limit = n;
            settle();
            return true;
        }

        boolean merged() {
            if (unlike() == 0) {
                refuse(3);
                return false;
            }
            act();
            mem.old = new ArrayList<>(mem.now);
            mem.mergings++;
            return true;
        }

        int store() {
            List<Integer> bytes = takeTape();
            if (!told || bytes.isEmpty() || mem.stored.length() + 8 * bytes.size() > 3200) {
                return refuse(3);
            }
            act();
            mem.stored += text(bytes);
            return mem.stored.length();
        }

        int pick(int way) {
            if (total() == 0 || way < 0 || way > 2) {
                return refuse(2);
            }
            Bits bits = new Bits(mem.stored);
            int picked = pickOf(bits, way, null);
            if (picked >= 0) {
                act();
                mem.stored = mem.stored.substring(bits.at);
                mem.taken += bits.at;
                mem.counts.set(picked, mem.counts.get(picked) + 1);
            }
            return picked;
        }

        /** Images can tell weights of which nearly all is refused; these would keep the test too long. */
        boolean wouldTakeLong() {
            return total() > 0 && (sum(mem.old) + (double) p()) / total() > 40;
        }

        int chance(int n, int way) {
            if (total() == 0 || way < 0 || way > 2 || n < 1 || n > 60) {
                return refuse(2);
            }
            act();
            int picked = -1;
            Seeded bits = new Seeded(seed);
            for (int i = 0; i < n; i++) {
                picked = pickOf(bits, way, null);
                mem.counts.set(picked, mem.counts.get(picked) + 1);
            }
            mem.taken += bits.at;
            seed = (int) bits.x;
            return picked;
        }

        boolean undo() {
            if (past.isEmpty()) {
                refuse(4);
                return false;
            }
            mem = past.removeLast();
            return true;
        }

        boolean seed(int s) {
            if (s < 0) {
                refuse(5);
                return false;
            }
            seed = s;
            return true;
        }

        // -------------------------------------------------------------- images

        static int check(List<Integer> bytes) {
            int c = 179;
            for (int b : bytes) {
                c = (3 * c + b) % 251;
            }
            return c;
        }

        int image() {
            List<Integer> bytes = new ArrayList<>();
            bytes.add(told ? mem.limit : 0);
            for (int i = 0; i < things(); i++) {
                for (int w : new int[] {mem.old.get(i), mem.now.get(i)}) {
                    for (byte b : BigInteger.valueOf(w + (1L << 32)).toByteArray()) {
                        bytes.add(b & 255);
                    }
                    bytes.remove(bytes.size() - 5);
                }
            }
            bytes.add(check(bytes));
            image = bytes.stream().mapToInt(Integer::intValue).toArray();
            return image.length;
        }

        int octet(int k) {
            return k >= 0 && k < image.length ? image[k] : -1;
        }

        boolean on() {
            List<Integer> bytes = takeTape();
            Memory m = mem.copy();
            boolean good = told && bytes.size() == 2 + 8 * things() && bytes.get(0) <= 16
                    && check(bytes.subList(0, bytes.size() - 1)) == bytes.get(bytes.size() - 1);
            for (int i = 0; good && i < 2 * things(); i++) {
                long w = 0;
                for (int b : bytes.subList(1 + 4 * i, 5 + 4 * i)) {
                    w = 256 * w + b;
                }
                good = w <= MOST;
                (i % 2 == 0 ? m.old : m.now).set(i / 2, (int) w);
            }
            if (!good) {
                refuse(5);
                return false;
            }
            m.limit = bytes.get(0);
            m.stored = "";
            Collections.fill(m.counts, 0);
            mem = m;
            past.clear();
            return true;
        }

        int status(int what) {
            return what >= 0 && what < 6 ? refused[what] : -1;
        }
    }
}
