/**
 * PICKS by the seed that go on for long: promise 43 has no end for them, so that one that ends at all must come to its
 * THING, however late; and LANGUAGE.md's rule 7 wants each call to end, so that one that never would is given up.
 *
 * Weights behind on() alone can refuse nearly all: here a DRAW of a power of 2 is refused unless all its bits are 1.
 */
public final class LongPickTest extends Desk {
    /** Bits by the seed come round after so many. */
    private static final int ROUND = 1 << 17;
    private static final long MODULUS = 1L << 31;
    /** One place alone of all bits by the seed has so many 1 in a row; none has more. */
    private static final int ONES = 16;

    private static final boolean[] BITS = new boolean[ROUND];
    private static final int[] SEEDS = new int[ROUND];
    private static int at;
    private static int taken;

    public static void main(String[] args) {
        allBits();
        due("places with 16 bits 1 in a row", places(ONES), 1);
        due("places with 17 bits 1 in a row", places(ONES + 1), 0);
        endsAtOnce();
        endsAtLast();
        endsAtLastOverAndOver();
        neverEnds();
        neverEndsBehindOthers();
        close("LongPickTest");
    }

    private static long step(long x) {
        return (1103515245L * x + 12345) % MODULUS;
    }

    private static void allBits() {
        long x = 0;
        for (int i = 0; i < ROUND; i++) {
            SEEDS[i] = (int) (x % ROUND);
            x = step(x);
            BITS[i] = x / 65536 % 2 == 1;
        }
        by("II: A bit by the seed: 2 to the 17 of them come round");
        due("the seed that comes round", x % ROUND, 0);
    }

    private static boolean isPlace(int first, int ones) {
        for (int i = 0; i < ones; i++) {
            if (!BITS[(first + i) % ROUND]) {
                return false;
            }
        }
        return true;
    }

    private static int places(int ones) {
        int found = 0;
        for (int i = 0; i < ROUND; i++) {
            found += isPlace(i, ones) ? 1 : 0;
        }
        return found;
    }

    private static int place(int ones) {
        for (int i = 0; i < ROUND; i++) {
            if (isPlace(i, ones)) {
                return i;
            }
        }
        return NONE;
    }

    /** By WAY 0 a: (a) so many bits, 1 for the column, as many for its OWN, as many that refuse a. */
    private static int bitsOfOneGo(int log) {
        return 3 * log + 1;
    }

    /** Of a 2 to the log is left 1; b has no weight, and a is its ALIAS. */
    private static ShareWheel nearlyAllRefused(int log) {
        ShareWheel x = told(text(16, "1", "0"));
        due("on()", on(x, image(16, 1 << log, 1, 0, 0)), true);
        due("LESS", x.thing(0, 3), (1 << log) - 1);
        due("GRAIN", x.has(6), 1);
        due("b's ALIAS", x.column(1, 1), 0);
        return x;
    }

    /** The seed so many goes ahead of the one by which a is not refused. */
    private static int seedAhead(int goes) {
        long first = place(ONES) - 2L * ONES - 1 - (long) goes * bitsOfOneGo(ONES);
        return SEEDS[(int) Math.floorMod(first, (long) ROUND)];
    }

    private static long seedBehind(int seed, long bits) {
        long x = seed;
        for (long i = 0; i < bits; i++) {
            x = step(x);
        }
        return x;
    }

    private static void dueLast(ShareWheel x, int goes) {
        int seed = seedAhead(goes - 1);
        int bits = goes * bitsOfOneGo(ONES);
        due("seed(" + seed + ")", x.seed(seed), true);
        due("chance(1, 0) of " + goes + " goes", x.chance(1, 0), 0);
        due("bits taken", x.has(11), bits);
        due("the seed", x.has(14), seedBehind(seed, bits));
        due("COUNT", x.thing(0, 4), 1);
        due("one ACT", x.has(13), 1);
        due("not refused", x.status(2), 0);
    }

    private static void endsAtOnce() {
        by("43: a PICK by WAY 0 that is not refused, or only once");
        dueLast(nearlyAllRefused(ONES), 1);
        dueLast(nearlyAllRefused(ONES), 2);
    }

    private static void endsAtLast() {
        by("43: a PICK by WAY 0 that is refused for long: again from (a) on");
        dueLast(nearlyAllRefused(ONES), 1000);
        dueLast(nearlyAllRefused(ONES), ROUND / 2 + 1);
        by("43: a PICK by WAY 0 that is refused all round, and not by the last bits");
        dueLast(nearlyAllRefused(ONES), ROUND - 1);
        dueLast(nearlyAllRefused(ONES), ROUND);
    }

    private static void endsAtLastOverAndOver() {
        by("43: n PICKS, each of which goes all round");
        ShareWheel x = nearlyAllRefused(ONES);
        int seed = seedAhead(ROUND - 1);
        int bits = 3 * ROUND * bitsOfOneGo(ONES);
        x.seed(seed);
        due("chance(3, 0)", x.chance(3, 0), 0);
        due("bits taken", x.has(11), bits);
        due("the seed", x.has(14), seedBehind(seed, bits));
        due("COUNT", x.thing(0, 4), 3);
        due("one ACT", x.has(13), 1);
    }

    /** The document is silent here; what is tested is that the call ends, and the reading that NOTES.md tells. */
    private static void neverEnds() {
        by("rule 7: a PICK by WAY 0 that would never end is OPEN, and leaves all");
        ShareWheel x = nearlyAllRefused(ONES + 1);
        x.seed(77);
        due("chance(1, 0)", x.chance(1, 0), OPEN);
        dueUntouched(x, 77);
        due("chance(1, 1)", x.chance(1, 1), 0);
        due("chance(1, 2)", x.chance(1, 2), 0);
        due("COUNT", x.thing(0, 4), 2);
    }

    private static void dueUntouched(ShareWheel x, int seed) {
        due("the seed", x.has(14), seed);
        due("bits taken", x.has(11), 0);
        due("COUNTS", x.has(10), 0);
        due("no ACT", x.has(13), 0);
        due("not refused", x.status(2), 0);
    }

    private static void neverEndsBehindOthers() {
        by("rule 7: nor are the PICKS counted that came ahead of one that would never end");
        int seed = 115771;
        int ahead = goesOn(seed);
        due("bits of the first PICK", ahead, 770);
        due("the second one never ends", goesOn((int) (seedBehind(seed, ahead) % ROUND)), OPEN);
        ShareWheel x = told(text(16, "1", "0"));
        due("on()", on(x, image(16, 16384, 2, 256, 0)), true);
        x.seed(seed);
        due("chance(2, 0)", x.chance(2, 0), OPEN);
        dueUntouched(x, seed);
        due("chance(1, 0)", x.chance(1, 0), 0);
        due("bits taken", x.has(11), ahead);
        due("chance(1, 0)", x.chance(1, 0), OPEN);
        due("bits taken stay", x.has(11), ahead);
        due("COUNTS stay", x.has(10), 1);
        due("one ACT", x.has(13), 1);
    }

    /**
     * How many bits a PICK of that wheel takes by WAY 0, worked out beside the class: by GRAIN, which is 2, T is 8320,
     * b's column has 256 of its own, and a as ALIAS; b is always refused, a unless its DRAW of 8192 is the last one.
     * OPEN, if it goes on where it has been.
     */
    private static int goesOn(int seed) {
        boolean[] been = new boolean[ROUND];
        at = 0;
        while (SEEDS[at] != seed) {
            at++;
        }
        taken = 0;
        while (!been[at]) {
            been[at] = true;
            drawn(8320);
            boolean columnOfB = drawn(2) == 1;
            boolean meetsB = drawn(8320) < 256 && columnOfB;
            if (drawn(meetsB ? 128 : 8192) == 8191) {
                return taken;
            }
        }
        return OPEN;
    }

    private static int drawn(int m) {
        int x;
        do {
            x = 0;
            for (int rest = m - 1; rest > 0; rest /= 2) {
                x = 2 * x + (BITS[at] ? 1 : 0);
                at = (at + 1) % ROUND;
                taken++;
            }
        } while (x >= m);
        return x;
    }
}
