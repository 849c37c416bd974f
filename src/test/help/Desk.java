import java.util.function.ToLongFunction;

/**
 * What the edge tests have in common: the sentence of the document that is being tested, answers beside those that
 * are due, tapes and wheels. Tests extend it, as nothing can be imported from a package without a name. An object is
 * promised for 512 calls alone, so that tests make new ones often.
 */
abstract class Desk {
    static final int NONE = -1;
    static final int OPEN = -2;
    static final int NOTHING = -1000000;
    /** 9999 times 1024. */
    static final int MOST = 10238976;
    static final double PART = 1 / 1024.0;
    /** Wrong inputs on both sides of all that can be. */
    static final int[] FAR = {Integer.MIN_VALUE, Integer.MIN_VALUE + 1, -1000, Integer.MAX_VALUE - 1, Integer.MAX_VALUE};

    private static String sentence = "";
    private static int sentences = 0;
    private static int asked = 0;
    private static int wrong = 0;

    /** From here on the answers are due by these words of the document. */
    static void by(String words) {
        sentence = words;
        sentences++;
    }

    static void due(String call, long got, long want) {
        asked++;
        if (got != want) {
            wrong++;
            System.out.println("[" + sentence + "] " + call + " answered " + got + ", due is " + want);
        }
    }

    static void due(String call, boolean got, boolean want) {
        due(call, got ? 1 : 0, want ? 1 : 0);
    }

    /** Far wrong inputs, all with the same answer. */
    static void dueFar(String call, ToLongFunction<Integer> ask, long want) {
        for (int k : FAR) {
            due(call + " with " + k, ask.applyAsLong(k), want);
        }
    }

    static void close(String test) {
        System.out.println(test + ": " + sentences + " sentences, " + asked + " answers, " + wrong + " wrong");
        if (wrong != 0) {
            System.exit(1);
        }
    }

    // ---- tapes

    static void tape(ShareWheel x, int... bytes) {
        x.end(0);
        for (int at = 0; at < bytes.length; at += 20) {
            int[] w = new int[5];
            for (int i = 0; i < 20 && at + i < bytes.length; i++) {
                w[i / 4] |= (bytes[at + i] & 255) << (24 - 8 * (i % 4));
            }
            x.feed(w[0], w[1], w[2], w[3], w[4]);
        }
        due("end(" + bytes.length + ")", x.end(bytes.length), true);
    }

    static void tapeText(ShareWheel x, String text) {
        tape(x, text.chars().toArray());
    }

    /** Bits told by 0 and 1, with blanks between them; what is missing to a whole byte is 0. */
    static int[] bits(String told) {
        String b = told.replace(" ", "");
        int[] bytes = new int[(b.length() + 7) / 8];
        for (int i = 0; i < b.length(); i++) {
            bytes[i / 8] |= (b.charAt(i) - '0') << (7 - i % 8);
        }
        return bytes;
    }

    static int[] alike(int count, int value) {
        int[] bytes = new int[count];
        java.util.Arrays.fill(bytes, value);
        return bytes;
    }

    static void dueTapeGone(ShareWheel x) {
        due("end(1) of a tape that went", x.end(1), false);
    }

    // ---- wheels

    static int tell(ShareWheel x, String text) {
        tapeText(x, text);
        return x.wheel();
    }

    static ShareWheel told(String text) {
        ShareWheel x = new ShareWheel();
        due("wheel() of '" + text + "' is good", tell(x, text) > 0, true);
        return x;
    }

    /** A wheel of things a, b, .. with these weights (as a text tells them). */
    static String text(int limit, String... weights) {
        StringBuilder b = new StringBuilder("wheel merge ").append(limit).append(';');
        for (int i = 0; i < weights.length; i++) {
            b.append("thing ").append((char) ('a' + i)).append(" weighs ").append(weights[i]).append(';');
        }
        return b.toString();
    }

    static String sixteen(int limit, String weight) {
        String[] weights = new String[16];
        java.util.Arrays.fill(weights, weight);
        return text(limit, weights);
    }

    static void good(String text, int statements) {
        ShareWheel x = new ShareWheel();
        due("wheel() of '" + text + "'", tell(x, text), statements);
        due("fault(0) of '" + text + "'", x.fault(0), 0);
        due("fault(1) of '" + text + "'", x.fault(1), NONE);
    }

    static void faulty(String text, int fault, int place) {
        ShareWheel x = new ShareWheel();
        due("wheel() of '" + text + "'", tell(x, text), NONE);
        due("fault(0) of '" + text + "'", x.fault(0), fault);
        due("fault(1) of '" + text + "'", x.fault(1), place);
        due("status(1) of '" + text + "'", x.status(1), 1);
    }

    // ---- calls in one piece

    static int setBits(ShareWheel x, int thing, long bits) {
        return x.set(thing, (int) (bits >> 32), (int) bits);
    }

    static int set(ShareWheel x, int thing, double weight) {
        return setBits(x, thing, Double.doubleToRawLongBits(weight));
    }

    /** So many 1024ths; they must be taken. */
    static void weigh(ShareWheel x, int thing, int parts) {
        due("set(" + thing + ", " + parts + " 1024ths)", set(x, thing, parts / 1024.0), parts);
    }

    static int tries(ShareWheel x, int way, int what, String bits) {
        tape(x, bits(bits));
        return x.tries(way, what);
    }

    static int store(ShareWheel x, int... bytes) {
        tape(x, bytes);
        return x.store();
    }

    static int see(ShareWheel x, int unknown, int... bytes) {
        tape(x, bytes);
        return x.see(unknown);
    }

    static boolean on(ShareWheel x, int... bytes) {
        tape(x, bytes);
        return x.on();
    }

    /** OLD and NEW by turns, with the check that is due. */
    static int[] image(int limit, int... weights) {
        int[] bytes = new int[2 + 4 * weights.length];
        bytes[0] = limit;
        for (int i = 0; i < weights.length; i++) {
            for (int k = 0; k < 4; k++) {
                bytes[1 + 4 * i + k] = weights[i] >>> (24 - 8 * k) & 255;
            }
        }
        bytes[bytes.length - 1] = check(bytes);
        return bytes;
    }

    /** The check of all bytes but the last. */
    static int check(int[] bytes) {
        int c = 179;
        for (int i = 0; i < bytes.length - 1; i++) {
            c = (3 * c + bytes[i]) % 251;
        }
        return c;
    }
}
