/** Edges of DRAWS, PICKS by each WAY, DEALS and ROWS: promises 23, 24, 27 to 33, and the middle part of Terms II. */
public final class DrawEdgeTest extends Desk {
    private static final String TWO = text(16, "1", "3");
    /** a 1 in BAND 0; b 3 and c 2 in BAND 1; d has no weight. */
    private static final String FOUR = text(16, "1", "3", "2", "0");
    private static final String THIRDS = text(16, "1", "1", "1");

    public static void main(String[] args) {
        drawOfOne();
        drawSizes();
        drawAgain();
        greatestDraw();
        wayZeroParts();
        wayZeroColumns();
        wayZeroRefusal();
        wayZeroMore();
        wayZeroWithoutTable();
        wayOne();
        wayTwo();
        greatestBand();
        bitsRunOut();
        triesAsked();
        hundredBytes();
        triesInAsked();
        rowsInAsked();
        bands();
        bandAsked();
        dealsAsked();
        pairsAsked();
        rowsOfNoneAndTwelve();
        rowsAsked();
        fewestAsked();
        longestAsked();
        lastRowAlone();
        close("DrawEdgeTest");
    }

    private static void picked(ShareWheel x, int way, String bits, int thing, int taken) {
        due("way " + way + " by " + bits, tries(x, way, 0, bits), thing);
        due("way " + way + " by " + bits + ", bits", tries(x, way, 1, bits), taken);
    }

    /** What is a PICK by some bits is OPEN by any fewer, and leaves them. */
    private static void openBelow(ShareWheel x, int way, String told, int thing) {
        String bits = told.replace(" ", "");
        for (int n = 0; n <= bits.length(); n++) {
            leave(x, bits.substring(0, n));
            boolean whole = n == bits.length();
            int acts = x.has(13);
            int taken = x.has(11);
            due("pick(" + way + ") by " + n + " of " + told, x.pick(way), whole ? thing : OPEN);
            due("bits left by " + n + " of " + told, x.has(9), whole ? 0 : n);
            due("bits taken by " + n + " of " + told, x.has(11), whole ? taken + n : taken);
            due("ACTS by " + n + " of " + told, x.has(13), whole ? Math.min(20, acts + 1) : acts);
        }
    }

    /** These bits alone are STORED: seven PICKS of 3 bits at most take what is ahead of them to whole bytes. */
    private static void leave(ShareWheel x, String bits) {
        while (x.has(9) > 0) {
            due("undo()", x.undo(), true);
        }
        int ahead = 0;
        while ((ahead * 3 + bits.length()) % 8 != 0) {
            ahead++;
        }
        if (ahead * 3 + bits.length() == 0) {
            return;
        }
        store(x, bits("000".repeat(ahead) + bits));
        for (int i = 0; i < ahead; i++) {
            due("000 by WAY 1", x.pick(1), 0);
        }
        due("bits STORED", x.has(9), bits.length());
    }

    // ---- DRAWS

    private static void drawOfOne() {
        by("II: A DRAW of m takes as many bits as m less 1 has (none for 1)");
        ShareWheel x = told(text(2, "7"));
        due("way 0 without bits", x.tries(0, 0), 0);
        due("way 0 without bits", x.tries(0, 1), 0);
        due("way 1 without bits", x.tries(1, 0), 0);
        due("way 1 without bits", x.tries(1, 1), 0);
        due("way 2 without bits: a DRAW of 2", x.tries(2, 0), OPEN);
        due("way 2 without bits: a DRAW of 2", x.tries(2, 1), 0);
        picked(x, 0, "1111 1111", 0, 0);
        picked(x, 1, "1111 1111", 0, 0);
        picked(x, 2, "0111 1111", 0, 1);
        picked(x, 2, "1110 1111", 0, 4);
        due("pick(0) without bits STORED", x.pick(0), 0);
        due("pick(1) without bits STORED", x.pick(1), 0);
        due("pick(2) without bits STORED", x.pick(2), OPEN);
        due("two PICKS", x.has(10), 2);
        due("no bits taken", x.has(11), 0);
        due("two ACTS", x.has(13), 2);
        due("chance(1, 1)", x.chance(1, 1), 0);
        due("the seed is not asked", x.has(14), 1);
        due("deals(0)", x.deals(0), 0);
        due("deals(1)", x.deals(1), NONE);
    }

    private static void drawSizes() {
        by("II: A DRAW of m takes as many bits as m less 1 has");
        int[][] sizes = {{2, 1}, {3, 2}, {4, 2}, {5, 3}, {8, 3}, {9, 4}, {16, 4}, {17, 5}, {255, 8}, {256, 8},
            {257, 9}, {1024, 10}, {1025, 11}, {2049, 12}, {4096, 12}};
        for (int[] s : sizes) {
            ShareWheel x = told(text(2, "1", String.valueOf(s[0] - 1)));
            due("bits of a DRAW of " + s[0], x.fewest(1, 0, 0), s[1]);
            due("the least of a DRAW of " + s[0], x.fewest(1, 0, 1), 0);
            due("0 of a DRAW of " + s[0], x.rows(1, s[1], 0), 1);
            due("others of a DRAW of " + s[0], x.rows(1, s[1], 1), s[0] - 1);
            due("not below " + s[0], x.rows(1, s[1], NONE), (1 << s[1]) - s[0]);
            due("a bit less than a DRAW of " + s[0], x.rows(1, s[1] - 1, NONE), 1 << (s[1] - 1));
        }
        due("bits of a DRAW of 4097", told(text(2, "1", "4096")).fewest(1, 0, 0), NONE);
    }

    private static void drawAgain() {
        by("II: the first one the highest; if that number is not below m, it takes as many again");
        ShareWheel x = told(THIRDS);
        picked(x, 1, "00", 0, 2);
        picked(x, 1, "01", 1, 2);
        picked(x, 1, "10", 2, 2);
        picked(x, 1, "11 00", 0, 4);
        picked(x, 1, "11 10", 2, 4);
        picked(x, 1, "11 11 01 00", 1, 6);
        picked(x, 1, "11 11 11 11", OPEN, 8);
        x = told(text(2, "1", "4"));
        picked(x, 1, "000", 0, 3);
        picked(x, 1, "100", 1, 3);
        picked(x, 1, "101 000 00", 0, 6);
        picked(x, 1, "101 110 11", OPEN, 8);
    }

    private static String binary(long number, int bits) {
        String b = Long.toBinaryString(number);
        return "0".repeat(bits - b.length()) + b;
    }

    private static void greatestDraw() {
        by("II: A DRAW of the greatest m");
        ShareWheel x = told(sixteen(2, "9999"));
        weigh(x, 15, MOST - 1);
        x.merged();
        int m = 16 * MOST - 1;
        picked(x, 1, binary(0, 28), 0, 28);
        picked(x, 1, binary(MOST - 1, 28), 0, 28);
        picked(x, 1, binary(MOST, 28), 1, 28);
        picked(x, 1, binary(m - 1, 28), 15, 28);
        picked(x, 1, binary(m, 28) + binary(m - 1, 28), 15, 56);
        picked(x, 1, binary((1 << 28) - 1, 28) + binary(5, 28), 0, 56);
        // The last column's OWN is 16 times its OLD; the first THING is its ALIAS.
        picked(x, 0, binary(m - 1, 28) + "1111" + binary(16 * MOST - 17, 28), 15, 60);
        picked(x, 0, binary(m - 1, 28) + "1111" + binary(16 * MOST - 16, 28), 0, 60);
        picked(x, 0, binary(m, 28) + binary(0, 28) + "1110" + binary(m - 1, 28), 14, 88);
    }

    // ---- WAY 0

    /** OLD 4, 4; NEW 2, 5: nine to draw from, the last one is MORE of b; a is refused by 0 and 1 of 4. */
    private static ShareWheel changed() {
        ShareWheel x = told(text(16, "4", "4"));
        weigh(x, 0, 2048);
        weigh(x, 1, 5120);
        due("no MERGING", x.has(8), 0);
        return x;
    }

    private static void wayZeroParts() {
        by("II: (a) x is a DRAW of (T + P) / GRAIN; (b) if x is below T / GRAIN");
        ShareWheel x = changed();
        picked(x, 0, "0111 1 000", 1, 8);
        picked(x, 0, "1000", 1, 4);
        picked(x, 0, "1001 1000", 1, 8);
        picked(x, 0, "1111 0111 1 000", 1, 12);
        picked(x, 0, "0000 1 111", 1, 8);
        picked(x, 0, "1001 1111", OPEN, 8);
    }

    private static void wayZeroColumns() {
        by("II: (b) a DRAW of n is a column, a DRAW of T / GRAIN is below its OWN / GRAIN, or not");
        // OWN 2 with b as ALIAS, and 4.
        ShareWheel x = told(TWO);
        picked(x, 0, "00 0 01", 0, 5);
        picked(x, 0, "11 0 10", 1, 5);
        picked(x, 0, "00 1 00", 1, 5);
        picked(x, 0, "11 1 11", 1, 5);
        // Three columns by two bits: 11 is none; REST 9, 0, 15: OWN 1 by c, 0 by a, 8.
        x = told(text(2, "3", "0", "5"));
        picked(x, 0, "000 00 000", 0, 8);
        picked(x, 0, "000 00 001", 2, 8);
        picked(x, 0, "000 01 000", 0, 8);
        picked(x, 0, "000 10 111", 2, 8);
        picked(x, 0, "000 11 00 000", 0, 10);
        picked(x, 0, "000 11 11 10 000", 2, 12);
    }

    private static void wayZeroRefusal() {
        by("II: (b) if this has LESS, a DRAW of its OLD / GRAIN below LESS / GRAIN refuses it: again from (a) on");
        ShareWheel x = changed();
        picked(x, 0, "0000 0 000 10", 0, 10);
        picked(x, 0, "0000 0 000 11", 0, 10);
        picked(x, 0, "0000 0 000 01 1000", 1, 14);
        picked(x, 0, "0000 0 000 00 0111 0 111 10", 0, 20);
        picked(x, 0, "0000 0 000 00 0111 1 111", 1, 18);
        // An ALIAS is refused as well: OLD 1, 7, NEW 1, 6: b by 0 of seven, three bits, 111 is none.
        x = told(text(16, "1", "7"));
        weigh(x, 1, 6144);
        picked(x, 0, "000 0 010 001", 1, 10);
        picked(x, 0, "000 0 010 000 000 0 001", 0, 17);
        picked(x, 0, "000 1 111 111 001", 1, 13);
        picked(x, 0, "000 0 001", 0, 7);
        // Without NEW every DRAW refuses it: OLD 1, 3, 1, NEW 1, 3, 0.
        x = told(text(16, "1", "3", "1"));
        weigh(x, 2, 0);
        due("no MERGING", x.has(8), 0);
        picked(x, 0, "000 10 000", OPEN, 8);
        picked(x, 0, "000 10 000 000 00 000", 0, 16);
    }

    private static void wayZeroMore() {
        by("II: (c) parts of MORE / GRAIN, side by side by numbers");
        // OLD 4, 4, 4; MORE 1, 0, 2: fifteen to draw from.
        ShareWheel x = told(text(16, "4", "4", "4"));
        weigh(x, 0, 5120);
        weigh(x, 2, 6144);
        picked(x, 0, "1100", 0, 4);
        picked(x, 0, "1101", 2, 4);
        picked(x, 0, "1110", 2, 4);
        picked(x, 0, "1111 1100", 0, 8);
        // T is 12, so that 12 and on of a DRAW of it are none.
        picked(x, 0, "1011 10 1011", 2, 10);
        picked(x, 0, "1011 10 1100 0000", 2, 14);
        picked(x, 0, "0000 11 00 1011", 0, 12);
    }

    private static void wayZeroWithoutTable() {
        by("II: WAY 0 without T: all is MORE");
        ShareWheel x = told(text(16, "0", "0", "0"));
        weigh(x, 1, 1024);
        picked(x, 0, "1", 1, 0);
        weigh(x, 2, 3072);
        picked(x, 0, "00", 1, 2);
        picked(x, 0, "01", 2, 2);
        picked(x, 0, "11", 2, 2);
    }

    // ---- WAYS 1 and 2

    private static void wayOne() {
        by("II: By WAY 1: a DRAW of TOTAL / GRAIN, THINGS having parts of NEW / GRAIN");
        ShareWheel x = told(FOUR);
        picked(x, 1, "000", 0, 3);
        picked(x, 1, "001", 1, 3);
        picked(x, 1, "011", 1, 3);
        picked(x, 1, "100", 2, 3);
        picked(x, 1, "101", 2, 3);
        picked(x, 1, "110 000 00", 0, 6);
        x = told(text(16, "0", "0", "2", "0", "2", "0"));
        picked(x, 1, "0", 2, 1);
        picked(x, 1, "1", 4, 1);
        x = changed();
        picked(x, 1, "001", 0, 3);
        picked(x, 1, "010", 1, 3);
        picked(x, 1, "110", 1, 3);
        picked(x, 1, "111 110 00", 1, 6);
    }

    private static void wayTwo() {
        by("II: By WAY 2: the part of a BAND, by its THINGS together, side by side by b");
        // BANDS: b in 0; c, d in 1; a in 2; parts 1, 5, 4 of 10.
        ShareWheel x = told(text(16, "4", "1", "2", "3"));
        picked(x, 2, "0000 0", 1, 5);
        picked(x, 2, "0001 0 00", 2, 7);
        picked(x, 2, "0101 0 00", 2, 7);
        picked(x, 2, "0110 000", 0, 7);
        picked(x, 2, "1001 000", 0, 7);
        picked(x, 2, "1010 0000 0", 1, 9);
        by("II: a DRAW of how many THINGS it has is one of these, by numbers");
        picked(x, 2, "0001 1 00", 3, 7);
        x = told(THIRDS);
        picked(x, 2, "00 00 0", 0, 5);
        picked(x, 2, "10 01 0", 1, 5);
        picked(x, 2, "01 10 0", 2, 5);
        picked(x, 2, "01 11 10 0", 2, 7);
        by("II: a DRAW of 2 to the b + 1, if it is below NEW / GRAIN of that, is that; else again from .. how many on");
        x = told(text(16, "4", "1", "2", "3"));
        picked(x, 2, "0001 0 01", 2, 7);
        picked(x, 2, "0001 0 10 1 10", 3, 10);
        picked(x, 2, "0001 1 11 0 01", 2, 10);
        picked(x, 2, "0001 1 10", 3, 7);
        picked(x, 2, "0110 011", 0, 7);
        picked(x, 2, "0110 100 000", 0, 10);
        picked(x, 2, "0000 1 1 1 0", 1, 8);
    }

    private static void greatestBand() {
        by("II: the greatest b");
        ShareWheel x = told(text(16, "9999", "1 by 1024"));
        due("band(0, 0)", x.band(0, 0), 23);
        picked(x, 2, binary(0, 24) + "0", 1, 25);
        picked(x, 2, binary(1, 24) + binary(MOST - 1, 24), 0, 48);
        picked(x, 2, binary(1, 24) + binary(MOST, 24) + binary(0, 24), 0, 72);
        picked(x, 2, binary(MOST, 24) + binary((1 << 24) - 1, 24) + binary(5, 24), 0, 72);
        picked(x, 2, binary(MOST + 1, 24) + binary(0, 24) + "1 1 0", 1, 51);
    }

    private static void bitsRunOut() {
        by("II: A PICK is OPEN, if the bits run out; one that is OPEN leaves all");
        openBelow(changed(), 0, "0000 0 000 10", 0);
        openBelow(changed(), 0, "1000", 1);
        openBelow(changed(), 1, "111 001", 0);
        openBelow(changed(), 2, "000 00", 0);
        // One THING, OLD 4, NEW 5: a DRAW of 5 is longer than one of a column and of 4 together.
        ShareWheel alone = told(text(16, "4"));
        weigh(alone, 0, 5120);
        openBelow(alone, 0, "011 11", 0);
        // BANDS: b, d in 0; c in 1; a in 2; parts 2, 2, 4 of 8.
        String text = text(16, "4", "1", "2", "1");
        openBelow(told(text), 1, "100", 1);
        openBelow(told(text), 2, "010 01", 2);
        openBelow(told(text), 2, "010 10 01", 2);
        openBelow(told(text), 2, "001 1 1 0 0", 1);
    }

    // ---- tries(), triesIn(), rowsIn()

    private static void triesAsked() {
        by("27: by a WAY (0, 1, 2); NONE without a TOTAL, when these can't be, or for others; the tape goes");
        ShareWheel x = told(FOUR);
        due("way 3", tries(x, 3, 0, "0"), NONE);
        dueTapeGone(x);
        due("way -1", tries(x, -1, 0, "0"), NONE);
        dueTapeGone(x);
        due("way 3, bits", tries(x, 3, 1, "0"), NONE);
        due("way -1, bits", tries(x, -1, 1, "0"), NONE);
        due("what 2", tries(x, 1, 2, "0"), NONE);
        dueTapeGone(x);
        due("what -1", tries(x, 1, -1, "0"), NONE);
        dueTapeGone(x);
        due("way 1", tries(x, 1, 0, "0"), 0);
        dueTapeGone(x);
        dueFar("tries(.., 0)", k -> tries(x, k, 0, "0"), NONE);
        dueFar("tries(0, ..)", k -> tries(x, 0, k, "0"), NONE);
        ShareWheel y = told(text(2, "0"));
        due("without a TOTAL", tries(y, 1, 0, "0"), NONE);
        dueTapeGone(y);
        ShareWheel z = new ShareWheel();
        due("without a wheel", tries(z, 1, 0, "0"), NONE);
        dueTapeGone(z);
        by("27: nothing is changed by it, or refused");
        for (int what = 8; what < 14; what++) {
            due("has(" + what + ")", x.has(what), 0);
        }
        due("status(2)", x.status(2), 0);
        due("status(2)", y.status(2), 0);
        by("27: OPEN, of OPEN all bits there are");
        due("no bits", tries(x, 1, 0, ""), OPEN);
        due("no bits", tries(x, 1, 1, ""), 0);
        picked(x, 1, "11 11 11 11", OPEN, 8);
        picked(x, 1, "11 11 11 11 11 11 11 11", OPEN, 16);
        picked(x, 0, "000 00 111", OPEN, 8);
        picked(x, 2, "111 111 111 111 1111", OPEN, 16);
    }

    private static int[] late(int bytes, String last) {
        return bits("1".repeat(8 * bytes - last.length()) + last);
    }

    private static void hundredBytes() {
        by("27, 23, 29: The tape has bits (100 bytes at most)");
        String text = THIRDS + "team t of a,b,c;";
        for (int what = 0; what < 2; what++) {
            ShareWheel x = told(text);
            tape(x, late(100, "01"));
            due("way 1, the last two of 800 bits", x.tries(1, what), what == 0 ? 1 : 800);
            tape(x, late(100, "00 01 00".replace(" ", "")));
            due("way 0, the last six of 800 bits", x.tries(0, what), what == 0 ? 1 : 800);
            tape(x, late(100, "00010"));
            due("way 2, the last five of 801 bits", x.tries(2, what), what == 0 ? OPEN : 800);
            tape(x, late(100, "01"));
            due("in a TEAM, the last two of 800 bits", x.triesIn(0, what), what == 0 ? 1 : 800);
            tape(x, alike(100, 255));
            due("800 bits of 1", x.tries(1, what), what == 0 ? OPEN : 800);
            tape(x, alike(100, 255));
            due("in a TEAM, 800 bits of 1", x.triesIn(0, what), what == 0 ? OPEN : 800);
            tape(x, alike(101, 0));
            due("way 1, 101 bytes", x.tries(1, what), NONE);
            dueTapeGone(x);
            tape(x, alike(101, 0));
            due("in a TEAM, 101 bytes", x.triesIn(0, what), NONE);
            dueTapeGone(x);
        }
        ShareWheel x = told(text);
        tape(x, late(100, "01"));
        due("a DEAL's first, the last two of 800 bits", x.deals(0), 1);
        tape(x, late(100, "10"));
        due("a DEAL's second, behind the last two of 800 bits", x.deals(1), OPEN);
        // 10 is c; 1 of a, b is b; a has one part.
        tape(x, late(100, "1010"));
        due("a DEAL's second, the last but one of 800 bits", x.deals(1), 1);
        tape(x, late(100, "1010"));
        due("a DEAL's third, without bits", x.deals(2), 0);
        tape(x, alike(101, 0));
        due("a DEAL of 101 bytes", x.deals(0), NONE);
        dueTapeGone(x);
        tape(x, alike(1200, 0));
        due("a DEAL of 1200 bytes", x.deals(0), NONE);
    }

    private static int triesIn(ShareWheel x, int team, int what, String bits) {
        tape(x, bits(bits));
        return x.triesIn(team, what);
    }

    private static void triesInAsked() {
        by("23: a PICK IN a TEAM: a DRAW of NEW / GRAIN of all its THINGS, by numbers");
        ShareWheel x = told(text(16, "1", "3", "2", "0", "6") + "team t of e,c,a;team u of d;team v of d,c;");
        // a 0, c 1 and 2, e 3 to 8: nine parts, four bits.
        due("0000", triesIn(x, 0, 0, "0000"), 0);
        due("0001", triesIn(x, 0, 0, "0001"), 2);
        due("0010", triesIn(x, 0, 0, "0010"), 2);
        due("0011", triesIn(x, 0, 0, "0011"), 4);
        due("1000", triesIn(x, 0, 0, "1000"), 4);
        due("1001 0000", triesIn(x, 0, 0, "1001 0000"), 0);
        due("1001 0000, bits", triesIn(x, 0, 1, "1001 0000"), 8);
        due("1001 1001", triesIn(x, 0, 0, "1001 1001"), OPEN);
        due("1001 1001, bits", triesIn(x, 0, 1, "1001 1001"), 8);
        due("GRAIN is that of all: two parts", triesIn(x, 2, 1, "0"), 1);
        due("d has no part", triesIn(x, 2, 0, "0"), 2);
        due("no bits", triesIn(x, 0, 0, ""), OPEN);
        due("no bits", triesIn(x, 0, 1, ""), 0);
        by("23: NONE when the TEAM has no weight, these can't be, there is none such, or for others; the tape goes");
        due("u has no weight", triesIn(x, 1, 0, "0"), NONE);
        dueTapeGone(x);
        due("no TEAM 3", triesIn(x, 3, 0, "0"), NONE);
        dueTapeGone(x);
        due("no TEAM -1", triesIn(x, -1, 0, "0"), NONE);
        dueTapeGone(x);
        due("what 2", triesIn(x, 0, 2, "0"), NONE);
        dueTapeGone(x);
        due("what -1", triesIn(x, 0, -1, "0"), NONE);
        dueTapeGone(x);
        dueFar("triesIn(.., 0)", k -> triesIn(x, k, 0, "0"), NONE);
        dueFar("triesIn(0, ..)", k -> triesIn(x, 0, k, "0"), NONE);
        due("without a wheel", triesIn(new ShareWheel(), 0, 0, "0"), NONE);
        weigh(x, 3, 1024);
        due("u has one part: no bits", triesIn(x, 1, 0, ""), 3);
    }

    private static void rowsInAsked() {
        by("24: Of ROWS of k bits (0 .. 12) by PICKS IN a TEAM how many come to a THING (NONE: are OPEN)");
        ShareWheel x = told(FOUR + "team t of a,c;team u of d;team v of a;");
        // a 0, c 1 and 2 of three parts, two bits.
        due("rowsIn(0, 0, NONE)", x.rowsIn(0, 0, NONE), 1);
        due("rowsIn(0, 0, 0)", x.rowsIn(0, 0, 0), 0);
        due("rowsIn(0, 1, NONE)", x.rowsIn(0, 1, NONE), 2);
        due("rowsIn(0, 2, 0)", x.rowsIn(0, 2, 0), 1);
        due("rowsIn(0, 2, NONE)", x.rowsIn(0, 2, NONE), 1);
        due("rowsIn(0, 12, 0)", x.rowsIn(0, 12, 0), 1365);
        due("rowsIn(0, 12, 2)", x.rowsIn(0, 12, 2), 2730);
        due("rowsIn(0, 12, NONE)", x.rowsIn(0, 12, NONE), 1);
        due("rowsIn(0, 12, 1): not in it", x.rowsIn(0, 12, 1), 0);
        due("rowsIn(2, 0, 0): one part", x.rowsIn(2, 0, 0), 1);
        due("rowsIn(2, 12, 0): one part", x.rowsIn(2, 12, 0), 4096);
        by("24: NONE when the TEAM has no weight, or these can't be");
        due("u has no weight", x.rowsIn(1, 2, 3), NONE);
        due("u has no weight", x.rowsIn(1, 0, NONE), NONE);
        due("rowsIn(0, 13, 0)", x.rowsIn(0, 13, 0), NONE);
        due("rowsIn(0, -1, 0)", x.rowsIn(0, -1, 0), NONE);
        due("rowsIn(0, 2, 4)", x.rowsIn(0, 2, 4), NONE);
        due("rowsIn(0, 2, -2)", x.rowsIn(0, 2, -2), NONE);
        due("rowsIn(3, 2, 0)", x.rowsIn(3, 2, 0), NONE);
        due("rowsIn(-1, 2, 0)", x.rowsIn(-1, 2, 0), NONE);
        dueFar("rowsIn(.., 2, 0)", k -> x.rowsIn(k, 2, 0), NONE);
        dueFar("rowsIn(0, .., 0)", k -> x.rowsIn(0, k, 0), NONE);
        dueFar("rowsIn(0, 2, ..)", k -> x.rowsIn(0, 2, k), NONE);
        due("without a wheel", new ShareWheel().rowsIn(0, 2, NONE), NONE);
    }

    // ---- BANDS

    private static void bands() {
        by("II: 2 to the b at least, and below 2 to the b + 1");
        for (int b = 1; b < 13; b++) {
            int low = 1 << b;
            ShareWheel x = told(text(2, "1", String.valueOf(low - 1), String.valueOf(low), String.valueOf(2 * low - 1)));
            due("band of 1", x.band(0, 0), 0);
            due("band of " + (low - 1), x.band(1, 0), b - 1);
            due("band of " + low, x.band(2, 0), b);
            due("band of " + (2 * low - 1), x.band(3, 0), b);
            due("how many in " + b, x.band(2, 1), 2);
            due("NEW / GRAIN of " + b, x.band(3, 2), 3 * low - 1);
        }
        ShareWheel x = told(text(2, "9999", "8192", "8191", "1 by 1024"));
        due("band of 9999", x.band(0, 0), 23);
        due("band of 8192", x.band(1, 0), 23);
        due("band of 8191", x.band(2, 0), 22);
        due("band of a 1024th", x.band(3, 0), 0);
        due("how many in 23", x.band(0, 1), 2);
        due("NEW / GRAIN of 23", x.band(0, 2), MOST + 8192 * 1024);
        x = told(sixteen(2, "9999"));
        due("sixteen in 0", x.band(15, 1), 16);
        due("sixteen in 0", x.band(15, 2), 16);
        weigh(x, 0, MOST - 1);
        due("sixteen in 23", x.band(15, 0), 23);
        due("sixteen in 23", x.band(0, 2), 16 * MOST - 1);
    }

    private static void bandAsked() {
        by("28: NONE when the THING has no weight, there is none such, or for others");
        ShareWheel x = told(FOUR);
        for (int what = 0; what < 3; what++) {
            due("band(3, " + what + ")", x.band(3, what), NONE);
        }
        due("band(4, 0)", x.band(4, 0), NONE);
        due("band(-1, 0)", x.band(-1, 0), NONE);
        due("band(0, 2)", x.band(0, 2), 1);
        due("band(0, 3)", x.band(0, 3), NONE);
        due("band(0, -1)", x.band(0, -1), NONE);
        dueFar("band(.., 0)", k -> x.band(k, 0), NONE);
        dueFar("band(0, ..)", k -> x.band(0, k), NONE);
        due("without a wheel", new ShareWheel().band(0, 0), NONE);
        weigh(x, 3, 1);
        due("the least weight", x.band(3, 0), 0);
        weigh(x, 0, 0);
        due("a weight that went", x.band(0, 0), NONE);
    }

    // ---- DEALS

    private static int deal(ShareWheel x, int k, String bits) {
        tape(x, bits(bits));
        return x.deals(k);
    }

    private static void dealsAsked() {
        by("29: the k-th (0 and on) THING of a DEAL; OPEN when the bits run out by then");
        ShareWheel x = told(FOUR);
        // 101 is c; a 0, b 1 to 3 of four: 10 is b; a has one part: no bits.
        due("deals(0)", deal(x, 0, "101 10"), 2);
        due("deals(1)", deal(x, 1, "101 10"), 1);
        due("deals(2)", deal(x, 2, "101 10"), 0);
        // 000 is a; b 0 to 2, c 3 and 4 of five: 111 none; then nothing.
        due("deals(0)", deal(x, 0, "000 111 11"), 0);
        due("deals(1)", deal(x, 1, "000 111 11"), OPEN);
        due("deals(2)", deal(x, 2, "000 111 11"), OPEN);
        due("deals(0) without bits", deal(x, 0, ""), OPEN);
        due("deals(0) by 11 11 11 11", deal(x, 0, "11 11 11 11"), OPEN);
        by("29: NONE when no weight is left by then");
        due("deals(3)", deal(x, 3, "101 10"), NONE);
        due("deals(4)", deal(x, 4, "101 10"), NONE);
        due("deals(of the greatest k)", deal(x, Integer.MAX_VALUE, "101 10"), NONE);
        ShareWheel y = told(sixteen(2, "5"));
        due("the 16th", deal(y, 15, "0".repeat(49)), 15);
        due("the 17th", deal(y, 16, "0".repeat(49)), NONE);
        // Eight DRAWS of 4 bits, four of 3, two of 2, one of 1, and one of none: 49.
        due("the 14th by 48 bits", deal(y, 13, "0".repeat(48)), 13);
        due("the 15th by 48 bits", deal(y, 14, "0".repeat(48)), OPEN);
        due("the 16th by 48 bits", deal(y, 15, "0".repeat(48)), OPEN);
        by("29: NONE without a TOTAL, or when these can't be; the tape goes");
        due("deals(-1)", deal(x, -1, "101 10"), NONE);
        dueTapeGone(x);
        for (int k : new int[] {Integer.MIN_VALUE, -1000}) {
            due("deals(" + k + ")", deal(x, k, "101 10"), NONE);
        }
        ShareWheel z = told(text(2, "0"));
        due("without a TOTAL", deal(z, 0, "0"), NONE);
        dueTapeGone(z);
        due("without a wheel", deal(new ShareWheel(), 0, "0"), NONE);
        due("nothing is changed by it", x.has(2), 6144);
        due("no COUNTS", x.has(10), 0);
        by("III: A DEAL: those that were PICKED having no weight any more (GRAIN stays)");
        ShareWheel g = told(text(2, "6", "2"));
        // 11 is b; a, alone, has three parts still: two bits, of which 11 is none.
        due("pairs(2, 1, 0)", g.pairs(2, 1, 0), 0);
        due("pairs(3, 1, 0)", g.pairs(3, 1, 0), 0);
        due("pairs(4, 1, 0)", g.pairs(4, 1, 0), 3);
    }

    private static void pairsAsked() {
        by("30: Of ROWS of k bits (0 .. 12) how many DEAL two THINGS, the first one ahead of the other");
        ShareWheel x = told(THIRDS);
        // Two bits, then one: 00 0 is a, b.
        due("pairs(0, 0, 1)", x.pairs(0, 0, 1), 0);
        due("pairs(2, 0, 1)", x.pairs(2, 0, 1), 0);
        due("pairs(3, 0, 1)", x.pairs(3, 0, 1), 1);
        due("pairs(3, 1, 0)", x.pairs(3, 1, 0), 1);
        due("pairs(5, 0, 1)", x.pairs(5, 0, 1), 5);
        due("pairs(12, 2, 1)", x.pairs(12, 2, 1), 512 + 128 + 32 + 8 + 2);
        due("a THING with itself", x.pairs(12, 1, 1), 0);
        ShareWheel none = told(text(2, "1", "0"));
        due("one without weight is not dealt", none.pairs(12, 0, 1), 0);
        due("one without weight is not dealt", none.pairs(12, 1, 0), 0);
        due("the other one by no bits", told(text(2, "1", "1")).pairs(1, 0, 1), 1);
        by("30: NONE without a TOTAL, or when these can't be");
        due("pairs(13, 0, 1)", x.pairs(13, 0, 1), NONE);
        due("pairs(-1, 0, 1)", x.pairs(-1, 0, 1), NONE);
        due("pairs(3, 3, 1)", x.pairs(3, 3, 1), NONE);
        due("pairs(3, -1, 1)", x.pairs(3, -1, 1), NONE);
        due("pairs(3, 0, 3)", x.pairs(3, 0, 3), NONE);
        due("pairs(3, 0, -1)", x.pairs(3, 0, -1), NONE);
        dueFar("pairs(.., 0, 1)", k -> x.pairs(k, 0, 1), NONE);
        dueFar("pairs(3, .., 1)", k -> x.pairs(3, k, 1), NONE);
        dueFar("pairs(3, 0, ..)", k -> x.pairs(3, 0, k), NONE);
        due("without a TOTAL", told(text(2, "0", "0")).pairs(3, 0, 1), NONE);
        due("without a wheel", new ShareWheel().pairs(3, 0, 1), NONE);
    }

    // ---- ROWS

    private static void rowsOfNoneAndTwelve() {
        by("31: ROWS of 0 bits");
        ShareWheel x = told(TWO);
        for (int way = 0; way < 3; way++) {
            due("rows(" + way + ", 0, NONE)", x.rows(way, 0, NONE), 1);
            due("rows(" + way + ", 0, 0)", x.rows(way, 0, 0), 0);
        }
        ShareWheel one = told(text(2, "0", "5"));
        due("rows(1, 0, 1) of one part", one.rows(1, 0, 1), 1);
        due("rows(1, 0, 0) of one part", one.rows(1, 0, 0), 0);
        due("rows(1, 0, NONE) of one part", one.rows(1, 0, NONE), 0);
        due("rows(0, 0, NONE) of two columns", one.rows(0, 0, NONE), 1);
        due("rows(0, 1, 1) of two columns", one.rows(0, 1, 1), 2);
        due("rows(0, 0, 0) of one column", told(text(2, "5")).rows(0, 0, 0), 1);
        due("rows(2, 0, NONE) of one part", one.rows(2, 0, NONE), 1);
        due("rows(2, 1, 1) of one part", one.rows(2, 1, 1), 1);
        by("31: ROWS of 12 bits");
        int[][] want = {{1024, 3072, 0}, {1024, 3072, 0}, {1023, 3069, 4}};
        for (int way = 0; way < 3; way++) {
            due("rows(" + way + ", 12, 0)", x.rows(way, 12, 0), want[way][0]);
            due("rows(" + way + ", 12, 1)", x.rows(way, 12, 1), want[way][1]);
            due("rows(" + way + ", 12, NONE)", x.rows(way, 12, NONE), want[way][2]);
        }
        x = told(FOUR);
        int[] six = {680, 2040, 1360, 0};
        for (int t = 0; t < 4; t++) {
            due("rows(1, 12, " + t + ")", x.rows(1, 12, t), six[t]);
        }
        due("rows(1, 12, NONE)", x.rows(1, 12, NONE), 16);
        ShareWheel far = told(text(2, "4095", "1"));
        due("a DRAW of 4096", far.rows(1, 12, 1), 1);
        due("a DRAW of 4096", far.rows(1, 12, 0), 4095);
        due("a DRAW of 4096 by 11 bits", far.rows(1, 11, NONE), 2048);
        due("a DRAW of 4097", told(text(2, "4096", "1")).rows(1, 12, NONE), 4096);
    }

    private static void rowsAsked() {
        by("31: NONE without a TOTAL, or when these can't be");
        ShareWheel x = told(FOUR);
        due("rows(3, 2, 0)", x.rows(3, 2, 0), NONE);
        due("rows(-1, 2, 0)", x.rows(-1, 2, 0), NONE);
        due("rows(1, 13, 0)", x.rows(1, 13, 0), NONE);
        due("rows(1, -1, 0)", x.rows(1, -1, 0), NONE);
        due("rows(1, 2, 4)", x.rows(1, 2, 4), NONE);
        due("rows(1, 2, -2)", x.rows(1, 2, -2), NONE);
        dueFar("rows(.., 2, 0)", k -> x.rows(k, 2, 0), NONE);
        dueFar("rows(1, .., 0)", k -> x.rows(1, k, 0), NONE);
        dueFar("rows(1, 2, ..)", k -> x.rows(1, 2, k), NONE);
        due("without a TOTAL", told(text(2, "0")).rows(1, 2, NONE), NONE);
        due("without a TOTAL", told(text(2, "0")).rows(1, 2, 0), NONE);
        due("without a wheel", new ShareWheel().rows(1, 2, NONE), NONE);
        due("the 16th", told(sixteen(2, "1")).rows(1, 4, 15), 1);
        due("the 17th", told(sixteen(2, "1")).rows(1, 4, 16), NONE);
    }

    private static void fewestAsked() {
        by("32: The fewest bits (0 .. 12) by which some ROW comes to a THING, the least such ROW");
        ShareWheel one = told(text(2, "0", "5"));
        due("0 bits", one.fewest(1, 1, 0), 0);
        due("0 bits", one.fewest(1, 1, 1), 0);
        ShareWheel far = told(text(2, "4095", "1"));
        due("12 bits", far.fewest(1, 1, 0), 12);
        due("12 bits", far.fewest(1, 1, 1), 4095);
        due("12 bits", far.fewest(1, 0, 1), 0);
        due("13 bits", told(text(2, "4096", "1")).fewest(1, 0, 0), NONE);
        due("13 bits", told(text(2, "4096", "1")).fewest(1, 0, 1), NONE);
        // Way 0: a DRAW of T, of a column, of T again: 5, 1, 5 bits; 6, 1, 6 are one too many.
        due("11 bits by way 0", told(text(2, "31", "1")).fewest(0, 0, 0), 11);
        due("13 bits by way 0", told(text(2, "63", "1")).fewest(0, 0, 0), NONE);
        ShareWheel x = changed();
        due("MORE is the shortest", x.fewest(0, 1, 0), 4);
        due("MORE is the shortest", x.fewest(0, 1, 1), 8);
        due("with a DRAW for LESS", x.fewest(0, 0, 0), 10);
        due("with a DRAW for LESS", x.fewest(0, 0, 1), 2);
        by("32: NONE when by none, without a TOTAL, these can't be, or for others");
        ShareWheel y = told(FOUR);
        for (int way = 0; way < 3; way++) {
            due("one without weight", y.fewest(way, 3, 0), NONE);
            due("one without weight", y.fewest(way, 3, 1), NONE);
        }
        due("fewest(3, 0, 0)", y.fewest(3, 0, 0), NONE);
        due("fewest(-1, 0, 0)", y.fewest(-1, 0, 0), NONE);
        due("fewest(1, 4, 0)", y.fewest(1, 4, 0), NONE);
        due("fewest(1, -1, 0)", y.fewest(1, -1, 0), NONE);
        due("fewest(1, -2, 0)", y.fewest(1, -2, 0), NONE);
        due("fewest(1, 0, 2)", y.fewest(1, 0, 2), NONE);
        due("fewest(1, 0, -1)", y.fewest(1, 0, -1), NONE);
        dueFar("fewest(.., 0, 0)", k -> y.fewest(k, 0, 0), NONE);
        dueFar("fewest(1, .., 0)", k -> y.fewest(1, k, 0), NONE);
        dueFar("fewest(1, 0, ..)", k -> y.fewest(1, 0, k), NONE);
        due("without a TOTAL", told(text(2, "0")).fewest(1, 0, 0), NONE);
        due("without a wheel", new ShareWheel().fewest(1, 0, 0), NONE);
    }

    private static void longestAsked() {
        by("33: Of ROWS of k bits (0 .. 12) the one that comes by most bits, of like ones the least");
        ShareWheel one = told(text(2, "0", "5"));
        due("0 bits", one.longest(1, 0, 0), 0);
        due("0 bits", one.longest(1, 0, 1), 0);
        due("12 bits of which none is taken", one.longest(1, 12, 0), 0);
        due("12 bits of which none is taken", one.longest(1, 12, 1), 0);
        ShareWheel x = told(THIRDS);
        due("longest(1, 2, 0)", x.longest(1, 2, 0), 0);
        due("longest(1, 2, 1)", x.longest(1, 2, 1), 2);
        due("longest(1, 3, 0)", x.longest(1, 3, 0), 0);
        due("longest(1, 3, 1)", x.longest(1, 3, 1), 2);
        due("longest(1, 4, 0)", x.longest(1, 4, 0), 0b1100);
        due("longest(1, 4, 1)", x.longest(1, 4, 1), 4);
        due("longest(1, 11, 0)", x.longest(1, 11, 0), 0b11111111000);
        due("longest(1, 11, 1)", x.longest(1, 11, 1), 10);
        due("longest(1, 12, 0)", x.longest(1, 12, 0), 0b111111111100);
        due("longest(1, 12, 1)", x.longest(1, 12, 1), 12);
        by("33: NONE when all are OPEN, without a TOTAL, these can't be, or for others");
        due("longest(1, 1, 0)", x.longest(1, 1, 0), NONE);
        due("longest(1, 1, 1)", x.longest(1, 1, 1), NONE);
        due("longest(1, 0, 0)", x.longest(1, 0, 0), NONE);
        due("longest(0, 5, 1)", x.longest(0, 5, 1), NONE);
        due("longest(0, 6, 1)", x.longest(0, 6, 1), 6);
        due("longest(1, 13, 0)", x.longest(1, 13, 0), NONE);
        due("longest(1, -1, 0)", x.longest(1, -1, 0), NONE);
        due("longest(3, 2, 0)", x.longest(3, 2, 0), NONE);
        due("longest(-1, 2, 0)", x.longest(-1, 2, 0), NONE);
        due("longest(1, 2, 2)", x.longest(1, 2, 2), NONE);
        due("longest(1, 2, -1)", x.longest(1, 2, -1), NONE);
        dueFar("longest(.., 2, 0)", k -> x.longest(k, 2, 0), NONE);
        dueFar("longest(1, .., 0)", k -> x.longest(1, k, 0), NONE);
        dueFar("longest(1, 2, ..)", k -> x.longest(1, 2, k), NONE);
        due("without a TOTAL", told(text(2, "0")).longest(1, 2, 0), NONE);
        due("without a wheel", new ShareWheel().longest(1, 2, 0), NONE);
    }

    /** T is 4095 and P 1: all rows of 12 bits but the last one lack bits for OWN. */
    private static void lastRowAlone() {
        by("31, 32, 33: of all ROWS of 12 bits the last one alone comes to a THING");
        ShareWheel x = told(text(2, "4095 by 1024"));
        weigh(x, 0, 4096);
        due("T", x.has(3), 4095);
        due("P", x.has(4), 1);
        due("rows(0, 12, 0)", x.rows(0, 12, 0), 1);
        due("rows(0, 12, NONE)", x.rows(0, 12, NONE), 4095);
        due("rows(0, 11, 0)", x.rows(0, 11, 0), 0);
        due("fewest(0, 0, 0)", x.fewest(0, 0, 0), 12);
        due("fewest(0, 0, 1)", x.fewest(0, 0, 1), 4095);
        due("longest(0, 12, 0)", x.longest(0, 12, 0), 4095);
        due("longest(0, 12, 1)", x.longest(0, 12, 1), 12);
        due("longest(0, 11, 0)", x.longest(0, 11, 0), NONE);
    }
}
