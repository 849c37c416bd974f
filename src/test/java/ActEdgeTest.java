import java.util.Arrays;

/** Edges of ACTS, of bits STORED and by the seed, of what is SEEN and of images: promises 34 to 36, 41 to 48. */
public final class ActEdgeTest extends Desk {
    private static final String TWO = text(16, "1", "3");
    private static final String HALVES = text(16, "1", "1");

    public static void main(String[] args) {
        storeMost();
        storeBehindPicks();
        storeTurnsRound();
        storeNone();
        pickAsked();
        chanceOneAndSixty();
        chanceNone();
        seedBits();
        seedAsked();
        actsOfEachKind();
        noActs();
        lastTwenty();
        twentyBehindUndone();
        undoTakesBack();
        undoLeaves();
        undoNone();
        rowsSeen();
        seeNone();
        fitsAsked();
        fitsEdges();
        tellsAsked();
        imageWritten();
        octetAsked();
        onTaken();
        onEdges();
        onNone();
        onWithoutMerging();
        close("ActEdgeTest");
    }

    // ---- bits STORED

    private static void storeMost() {
        by("41: NONE, refused (3), when there would be more than 3200");
        ShareWheel x = told(HALVES);
        due("3192 bits", store(x, alike(399, 0xA5)), 3192);
        due("and 16", store(x, 1, 2), NONE);
        due("has(9) stays", x.has(9), 3192);
        due("status(3)", x.status(3), 1);
        due("one ACT", x.has(13), 1);
        dueTapeGone(x);
        due("and 8", store(x, 0xFF), 3200);
        due("has(9)", x.has(9), 3200);
        due("and 8 more", store(x, 0xFF), NONE);
        due("status(3)", x.status(3), 2);
        due("two ACTS", x.has(13), 2);
        due("what is refused is not taken", x.pick(1), 1);
        due("what is refused is not taken", x.pick(1), 0);
        ShareWheel y = told(HALVES);
        due("3200 bits at once", store(y, alike(400, 255)), 3200);
        y = told(HALVES);
        due("3208 bits at once", store(y, alike(401, 255)), NONE);
        due("9600 bits at once", store(y, alike(1200, 255)), NONE);
        due("has(9)", y.has(9), 0);
        due("no ACT", y.has(13), 0);
        due("8 bits", store(y, 255), 8);
    }

    private static void storeBehindPicks() {
        by("II: STORED are bits (3200 at most), taken in order: those that went make room");
        ShareWheel x = told(HALVES);
        store(x, alike(400, 0x0F));
        for (int i = 0; i < 7; i++) {
            due("bit " + i, x.pick(1), i < 4 ? 0 : 1);
        }
        due("8 behind 3193", store(x, 0xFF), NONE);
        due("bit 7", x.pick(1), 1);
        due("8 behind 3192", store(x, 0xC3), 3200);
        due("8 behind 3200", store(x, 0xC3), NONE);
        by("41: they are STORED, behind those that are: how many then");
        // Sixteen parts, four bits: each PICK tells half a byte.
        x = told(sixteen(16, "1"));
        due("two bytes", store(x, 0x12, 0x34), 16);
        due("1", x.pick(1), 1);
        due("a byte behind 12 bits", store(x, 0x56), 20);
        for (int want = 2; want <= 6; want++) {
            due("half a byte", x.pick(1), want);
        }
        due("none left", x.pick(1), OPEN);
        due("has(9)", x.has(9), 0);
        due("has(11)", x.has(11), 24);
        due("a byte behind none", store(x, 0x9C), 8);
        due("9", x.pick(1), 9);
        due("c", x.pick(1), 12);
    }

    /** A byte at a time, of which the higher half is the THING: 256 parts, sixteen for each but the last two. */
    private static void storeTurnsRound() {
        by("II: 3200 bits that begin anywhere are taken in order, to the last one");
        String[] weights = new String[16];
        Arrays.fill(weights, "16");
        weights[14] = "17";
        weights[15] = "15";
        int[] bytes = new int[450];
        for (int i = 0; i < bytes.length; i++) {
            bytes[i] = (i * i * 5 + i * 3 + i / 7) % 14 << 4 | i % 16;
        }
        for (int gone : new int[] {1, 2, 3, 4, 5, 7, 8, 9}) {
            ShareWheel x = told(text(16, weights));
            due("3200 bits", store(x, Arrays.copyOf(bytes, 400)), 3200);
            for (int i = 0; i < gone; i++) {
                due("byte " + i, x.pick(1), bytes[i] >> 4);
            }
            due(gone + " bytes behind them", store(x, Arrays.copyOfRange(bytes, 400, 400 + gone)), 3200);
            for (int i = gone; i < 400 + gone; i++) {
                due("byte " + i, x.pick(1), bytes[i] >> 4);
            }
            due("none is left", x.pick(1), OPEN);
        }
        // 2 to the 24 parts: the last PICK takes the last byte of the first tape and two of the other.
        ShareWheel far = told(text(16, "8192", "8191", "1023 by 1024", "1 by 1024"));
        due("3200 bits", store(far, alike(400, 255)), 3200);
        due("111 .. 111", far.pick(1), 3);
        due("three bytes behind them", store(far, 255, 254, 0), 3200);
        for (int i = 0; i < 132; i++) {
            due("111 .. 111", far.pick(1), 3);
        }
        due("111 .. 110", far.pick(1), 2);
        due("has(9)", far.has(9), 8);
        by("41: over and over, as long as there is room");
        ShareWheel x = told(text(16, weights));
        int stored = 0;
        int taken = 0;
        for (int round = 0; round < 12; round++) {
            int more = round % 2 == 0 ? 40 : 31;
            due("store()", store(x, Arrays.copyOfRange(bytes, stored, stored + more)), 8 * (stored + more - taken));
            stored += more;
            for (int i = 0; i < 29; i++) {
                due("byte " + taken, x.pick(1), bytes[taken] >> 4);
                taken++;
            }
        }
        due("has(11)", x.has(11), 8 * taken);
    }

    private static void storeNone() {
        by("41: NONE, refused (3), when there are none, or without a wheel");
        ShareWheel x = told(HALVES);
        due("no tape", x.store(), NONE);
        due("status(3)", x.status(3), 1);
        due("no ACT", x.has(13), 0);
        due("one byte", store(x, 0), 8);
        due("no tape, as it went", x.store(), NONE);
        due("status(3)", x.status(3), 2);
        due("has(9)", x.has(9), 8);
        ShareWheel y = new ShareWheel();
        due("without a wheel", store(y, 1), NONE);
        dueTapeGone(y);
        due("status(3)", y.status(3), 1);
        due("has(9)", y.has(9), 0);
        due("a wheel without THINGS stores", store(told("wheel merge 1;"), 1), 8);
        due("a wheel without a TOTAL stores", store(told(text(1, "0")), 1), 8);
    }

    private static void pickAsked() {
        by("42: NONE, refused (2), without a TOTAL, or when the WAY can't be");
        ShareWheel x = told(HALVES);
        store(x, 0, 0);
        due("pick(3)", x.pick(3), NONE);
        due("pick(-1)", x.pick(-1), NONE);
        dueFar("pick", x::pick, NONE);
        due("status(2)", x.status(2), 2 + FAR.length);
        due("has(9)", x.has(9), 16);
        due("one ACT", x.has(13), 1);
        due("pick(0)", x.pick(0), 0);
        due("pick(1)", x.pick(1), 0);
        due("pick(2)", x.pick(2), 0);
        due("four ACTS", x.has(13), 4);
        due("has(10)", x.has(10), 3);
        ShareWheel y = told(text(1, "0"));
        store(y, 0);
        due("without a TOTAL", y.pick(1), NONE);
        due("status(2)", y.status(2), 1);
        due("has(9)", y.has(9), 8);
        ShareWheel z = new ShareWheel();
        due("without a wheel", z.pick(1), NONE);
        due("status(2)", z.status(2), 1);
        due("without THINGS", told("wheel merge 1;").pick(1), NONE);
        by("42: OPEN (no ACT), and not refused");
        x = told(HALVES);
        due("without bits", x.pick(1), OPEN);
        due("no ACT", x.has(13), 0);
        due("status(2)", x.status(2), 0);
        due("has(10)", x.has(10), 0);
        by("42: COUNT of a THING: how often it was PICKED");
        store(x, bits("0111 0000"));
        for (int i = 0; i < 8; i++) {
            x.pick(1);
        }
        due("COUNT of a", x.thing(0, 4), 5);
        due("COUNT of b", x.thing(1, 4), 3);
        due("has(9)", x.has(9), 0);
        due("has(11)", x.has(11), 8);
    }

    // ---- the seed

    private static void chanceOneAndSixty() {
        by("43: n PICKS (1 .. 60) by a WAY, bits by the seed, one ACT");
        ShareWheel x = told(HALVES);
        int[] bits = new int[200];
        long seed = 1;
        for (int i = 0; i < bits.length; i++) {
            seed = (1103515245L * seed + 12345) % 2147483648L;
            bits[i] = (int) (seed / 65536 % 2);
        }
        due("chance(1, 1)", x.chance(1, 1), bits[0]);
        due("has(10)", x.has(10), 1);
        due("has(11)", x.has(11), 1);
        due("one ACT", x.has(13), 1);
        due("chance(60, 1)", x.chance(60, 1), bits[60]);
        due("has(10)", x.has(10), 61);
        due("has(11)", x.has(11), 61);
        due("one ACT more", x.has(13), 2);
        int ones = 0;
        for (int i = 0; i <= 60; i++) {
            ones += bits[i];
        }
        due("COUNT of b", x.thing(1, 4), ones);
        due("COUNT of a", x.thing(0, 4), 61 - ones);
        due("chance(59, 1)", x.chance(59, 1), bits[119]);
        due("bits STORED are not asked", x.has(9), 0);
        by("43: by each WAY");
        for (int way = 0; way < 3; way++) {
            x = told(HALVES);
            int at = 0;
            int want = NONE;
            // Way 0: x, a column, T; way 2: the one BAND, one of two, a DRAW of 2 that must be 0.
            for (int i = 0; i < 3; i++) {
                if (way == 0) {
                    want = bits[at + 1];
                    at += 3;
                } else if (way == 1) {
                    want = bits[at];
                    at++;
                } else {
                    at++;
                    do {
                        want = bits[at];
                        at += 2;
                    } while (bits[at - 1] == 1);
                }
            }
            due("chance(3, " + way + ")", x.chance(3, way), want);
            due("has(11) of way " + way, x.has(11), at);
        }
    }

    private static void chanceNone() {
        by("43: NONE, refused (2), without a TOTAL, or when these can't be");
        ShareWheel x = told(HALVES);
        due("chance(0, 1)", x.chance(0, 1), NONE);
        due("chance(61, 1)", x.chance(61, 1), NONE);
        due("chance(-1, 1)", x.chance(-1, 1), NONE);
        due("chance(1, 3)", x.chance(1, 3), NONE);
        due("chance(1, -1)", x.chance(1, -1), NONE);
        dueFar("chance(.., 1)", k -> x.chance(k, 1), NONE);
        dueFar("chance(1, ..)", k -> x.chance(1, k), NONE);
        due("status(2)", x.status(2), 5 + 2 * FAR.length);
        due("no ACT", x.has(13), 0);
        due("no COUNTS", x.has(10), 0);
        due("the seed stays", x.has(14), 1);
        ShareWheel y = told(text(1, "0"));
        due("without a TOTAL", y.chance(1, 1), NONE);
        due("status(2)", y.status(2), 1);
        due("without a wheel", new ShareWheel().chance(1, 1), NONE);
    }

    private static void seedBits() {
        by("II: A bit by the seed: x becomes (1103515245 x + 12345) mod 2 to the 31; floor(x / 65536) mod 2");
        // By hand: 0 gives 12345, below 65536: a; 1 gives 1103527590: 16838, even: a.
        // 2147483647 gives 12345 less 1103515245, and 2147483648: 1043980748: 15929, odd: b.
        int[][] want = {{0, 12345, 0}, {1, 1103527590, 0}, {2147483647, 1043980748, 1}};
        for (int[] w : want) {
            ShareWheel x = told(HALVES);
            due("seed(" + w[0] + ")", x.seed(w[0]), true);
            due("chance(1, 1)", x.chance(1, 1), w[2]);
            due("has(14)", x.has(14), w[1]);
        }
        by("II: DRAWS by the seed: the first bit the highest");
        // The seed 1 gives 0011 1101 0010 ..: worked out one by one here.
        ShareWheel y = told(sixteen(16, "1"));
        long seed = 1;
        for (int i = 0; i < 30; i++) {
            int drawn = 0;
            for (int k = 0; k < 4; k++) {
                seed = (1103515245L * seed + 12345) % 2147483648L;
                drawn = 2 * drawn + (int) (seed / 65536 % 2);
            }
            if (i < 2) {
                due("by hand", drawn, i == 0 ? 0b0011 : 0b1101);
            }
            due("chance(1, 1) no. " + i, y.chance(1, 1), drawn);
            due("has(14)", y.has(14), seed);
        }
    }

    private static void seedAsked() {
        by("45: false, refused (5), when it is below 0");
        ShareWheel x = told(HALVES);
        due("seed(-1)", x.seed(-1), false);
        due("seed(of the least int)", x.seed(Integer.MIN_VALUE), false);
        due("status(5)", x.status(5), 2);
        due("has(14)", x.has(14), 1);
        due("seed(0)", x.seed(0), true);
        due("has(14)", x.has(14), 0);
        due("seed(of the greatest int)", x.seed(Integer.MAX_VALUE), true);
        due("has(14)", x.has(14), Integer.MAX_VALUE);
        due("the same again", x.seed(Integer.MAX_VALUE), true);
        due("no ACT", x.has(13), 0);
        ShareWheel y = new ShareWheel();
        due("seed(5) without a wheel", y.seed(5), true);
        due("has(14)", y.has(14), 5);
        due("seed(-5) without a wheel", y.seed(-5), false);
        due("has(14)", y.has(14), 5);
    }

    // ---- ACTS

    private static void actsOfEachKind() {
        by("II: ACTS: another weight; another number to merge; MERGING; bits STORED; a PICK by these; n by the seed");
        ShareWheel x = told(HALVES);
        weigh(x, 0, 2048);
        due("another weight", x.has(13), 1);
        x.merge(3);
        due("another number to merge", x.has(13), 2);
        x.merged();
        due("MERGING", x.has(13), 3);
        store(x, 0, 0);
        due("bits STORED", x.has(13), 4);
        x.pick(1);
        due("a PICK", x.has(13), 5);
        x.chance(60, 1);
        due("n by the seed", x.has(13), 6);
        weigh(x, 0, 0);
        due("another weight, with MERGING", x.has(13), 7);
        due("has(8)", x.has(8), 2);
        for (int acts = 6; acts >= 0; acts--) {
            due("undo()", x.undo(), true);
            due("has(13)", x.has(13), acts);
        }
        due("undo()", x.undo(), false);
    }

    private static void noActs() {
        by("II: what is no ACT");
        ShareWheel x = told(HALVES);
        x.seed(9);
        see(x, 0, 0, 0);
        x.image();
        set(x, 0, 1);
        x.merge(16);
        x.merged();
        x.store();
        x.pick(1);
        x.pick(7);
        x.chance(0, 1);
        x.tries(1, 0);
        x.deals(0);
        due("has(13)", x.has(13), 0);
        due("undo()", x.undo(), false);
    }

    private static void lastTwenty() {
        by("II: The last 20 can be undone");
        ShareWheel x = told(HALVES);
        for (int i = 1; i <= 20; i++) {
            weigh(x, 0, 5000 + i);
            due("has(13)", x.has(13), i);
        }
        weigh(x, 0, 5021);
        due("one more", x.has(13), 20);
        for (int i = 20; i >= 1; i--) {
            due("undo()", x.undo(), true);
            due("thing(0, 1)", x.thing(0, 1), 5000 + i);
            due("has(13)", x.has(13), i - 1);
        }
        due("the first one can't be", x.undo(), false);
        due("thing(0, 1)", x.thing(0, 1), 5001);
        due("status(4)", x.status(4), 1);
        x = told(HALVES);
        for (int i = 1; i <= 20; i++) {
            weigh(x, 0, 5000 + i);
        }
        for (int i = 1; i <= 20; i++) {
            due("undo()", x.undo(), true);
        }
        due("20, and all are undone", x.thing(0, 1), 1024);
        due("undo()", x.undo(), false);
    }

    private static void twentyBehindUndone() {
        by("II: The last 20 can be undone: others in the place of what was undone");
        ShareWheel x = told(HALVES);
        for (int i = 1; i <= 30; i++) {
            weigh(x, 0, 5000 + i);
        }
        for (int i = 1; i <= 7; i++) {
            x.undo();
        }
        due("thing(0, 1)", x.thing(0, 1), 5023);
        due("has(13)", x.has(13), 13);
        for (int i = 1; i <= 9; i++) {
            weigh(x, 0, 6000 + i);
        }
        due("has(13)", x.has(13), 20);
        for (int i = 8; i >= 1; i--) {
            x.undo();
            due("thing(0, 1)", x.thing(0, 1), 6000 + i);
        }
        for (int i = 23; i >= 12; i--) {
            due("undo()", x.undo(), true);
            due("thing(0, 1)", x.thing(0, 1), 5000 + i);
        }
        due("undo()", x.undo(), false);
    }

    private static void undoTakesBack() {
        by("44: The latest ACT is undone; II: what has() tells of MERGING, bits taken goes back, too");
        ShareWheel x = told(text(1, "4", "4"));
        weigh(x, 0, 4097);
        weigh(x, 1, 4097);
        due("MERGING", x.has(8), 1);
        due("undo()", x.undo(), true);
        due("has(8)", x.has(8), 0);
        due("OLD of a", x.thing(0, 0), 4096);
        due("NEW of a", x.thing(0, 1), 4097);
        due("NEW of b", x.thing(1, 1), 4096);
        due("T", x.has(3), 8192);
        due("OWN by T", x.column(0, 0), 8192);
        due("merged()", x.merged(), true);
        due("OWN by T", x.column(1, 0), 8192);
        due("T", x.has(3), 8193);
        due("undo()", x.undo(), true);
        due("has(7)", x.has(7), 1);
        due("has(8)", x.has(8), 0);
        due("merge(0), with MERGING", x.merge(0), true);
        due("has(8)", x.has(8), 1);
        due("undo()", x.undo(), true);
        due("has(8)", x.has(8), 0);
        due("has(1)", x.has(1), 1);
        due("has(7)", x.has(7), 1);
        due("undo()", x.undo(), true);
        due("GRAIN", x.has(6), 4096);
        store(x, 0x5A);
        due("0", x.pick(1), 0);
        due("1", x.pick(1), 1);
        due("undo()", x.undo(), true);
        due("has(9)", x.has(9), 7);
        due("has(10)", x.has(10), 1);
        due("has(11)", x.has(11), 1);
        due("COUNT of b", x.thing(1, 4), 0);
        due("the same bit again", x.pick(1), 1);
        x.chance(60, 1);
        due("has(10)", x.has(10), 62);
        due("undo()", x.undo(), true);
        due("has(10)", x.has(10), 2);
        due("has(11)", x.has(11), 2);
        x.undo();
        x.undo();
        due("undo() of bits STORED", x.undo(), true);
        due("has(9)", x.has(9), 0);
        due("pick(1)", x.pick(1), OPEN);
    }

    private static void undoLeaves() {
        by("44: the seed, what is SEEN, why() stay");
        ShareWheel x = told(HALVES);
        x.chance(5, 1);
        int seed = x.has(14);
        see(x, 1, 0x80, 1);
        set(x, 0, PART / 2);
        due("undo()", x.undo(), true);
        due("has(14)", x.has(14), seed);
        due("has(12)", x.has(12), 1);
        due("fits(NONE)", x.fits(NONE), 31);
        due("why(0)", x.why(0), 6);
        due("why(1)", x.why(1), 2);
        due("fault(1)", x.fault(1), NONE);
        due("the next PICKS are others", x.has(10), 0);
        x.seed(1);
        weigh(x, 0, 2048);
        x.seed(99);
        x.undo();
        due("has(14)", x.has(14), 99);
    }

    private static void undoNone() {
        by("44: false, refused (4), when none can be");
        ShareWheel x = new ShareWheel();
        due("without a wheel", x.undo(), false);
        due("status(4)", x.status(4), 1);
        tell(x, HALVES);
        due("behind wheel()", x.undo(), false);
        due("status(4)", x.status(4), 2);
        weigh(x, 0, 5);
        tell(x, HALVES);
        due("behind another wheel()", x.undo(), false);
        weigh(x, 0, 5);
        tell(x, "wheel");
        due("behind wheel() with a FAULT", x.undo(), true);
        due("status(4)", x.status(4), 3);
    }

    // ---- what is SEEN

    private static void rowsSeen() {
        by("34: 1 to 20 rows of two bytes (bits; a THING, 255): how many rows");
        ShareWheel x = told(HALVES);
        due("no row", see(x, 0), NONE);
        due("one row", see(x, 0, 0, 0), 1);
        due("has(12)", x.has(12), 1);
        dueTapeGone(x);
        due("20 rows", see(x, 1, alike(40, 0)), 20);
        due("has(12)", x.has(12), 20);
        due("21 rows", see(x, 1, alike(42, 0)), NONE);
        dueTapeGone(x);
        due("has(12)", x.has(12), 20);
        due("status(5)", x.status(5), 2);
        int[] twenty = alike(40, 0);
        twenty[38] = 0x80;
        twenty[39] = 1;
        due("20 rows, the last by 1", see(x, 1, twenty), 20);
        due("the last of 20 rows counts", x.fits(0), 1);
        due("600 rows", see(x, 1, alike(1200, 0)), NONE);
        ShareWheel y = told(sixteen(2, "1"));
        due("the last THING", see(y, 15, 255, 15), 1);
        due("the 17th", see(y, 15, 255, 16), NONE);
        due("254", see(y, 15, 255, 254), NONE);
        due("255", see(y, 15, 255, 255), 1);
        due("128", see(y, 15, 255, 128), NONE);
    }

    private static void seeNone() {
        by("34: NONE, refused (5), all staying, when it is none such, or there is no such THING");
        ShareWheel x = told(HALVES);
        due("see(1)", see(x, 1, 0x80, 1, 0xC0, 0), 2);
        int fits = x.fits(NONE);
        due("one byte", see(x, 0, 0), NONE);
        due("three bytes", see(x, 0, 0, 0, 0), NONE);
        due("39 bytes", see(x, 0, alike(39, 0)), NONE);
        due("41 bytes", see(x, 0, alike(41, 0)), NONE);
        due("a wrong THING in the last row", see(x, 0, 0, 0, 0, 1, 0, 2), NONE);
        due("see(2)", see(x, 2, 0, 0), NONE);
        due("see(-1)", see(x, -1, 0, 0), NONE);
        dueFar("see", k -> see(x, k, 0, 0), NONE);
        dueTapeGone(x);
        due("status(5)", x.status(5), 7 + FAR.length);
        due("has(12)", x.has(12), 2);
        due("fits(NONE)", x.fits(NONE), fits);
        due("fits(0)", x.fits(0), 2);
        ShareWheel y = new ShareWheel();
        due("without a wheel", see(y, 0, 0, 255), NONE);
        dueTapeGone(y);
        due("status(5)", y.status(5), 1);
        due("without THINGS", see(told("wheel merge 1;"), 0, 0, 255), NONE);
        due("without a TOTAL", see(told(text(1, "0")), 0, 0, 0), 1);
    }

    private static void fitsAsked() {
        by("35: how many (k NONE), the k-th, rising; NONE when there is none such, or nothing is SEEN");
        ShareWheel x = told(HALVES);
        due("nothing is SEEN", x.fits(NONE), NONE);
        due("nothing is SEEN", x.fits(0), NONE);
        due("nothing is SEEN, without a wheel", new ShareWheel().fits(NONE), NONE);
        see(x, 1, 0x80, 1);
        due("fits(NONE)", x.fits(NONE), 31);
        for (int k = 0; k < 31; k++) {
            due("fits(" + k + ")", x.fits(k), k + 1);
        }
        due("fits(31)", x.fits(31), NONE);
        due("fits(-2)", x.fits(-2), NONE);
        dueFar("fits", x::fits, NONE);
        see(x, 1, 0, 1);
        due("none fits", x.fits(NONE), 0);
        due("none fits", x.fits(0), NONE);
    }

    private static void fitsEdges() {
        by("III: FITS are those of 0 .. 31 (whole, times 1024) as its NEW");
        ShareWheel x = told(HALVES);
        see(x, 1, 0, 0);
        due("0 as well: a alone, without bits", x.fits(NONE), 32);
        due("0", x.fits(0), 0);
        due("31", x.fits(31), 31);
        due("no 33rd one", x.fits(32), NONE);
        see(x, 1, 0, 0, 0b01000000, 0);
        // Behind 1 a byte that begins with 01 is b's, or none's: 0 and 1 alone are left.
        due("0 and 1", x.fits(NONE), 2);
        due("0", x.fits(0), 0);
        due("1", x.fits(1), 1);
        due("no third one", x.fits(2), NONE);
        // 31 and 1: five bits; 11111 is the last of 32.
        see(x, 1, 0b11111000, 1, 0b10000000, 1);
        due("31 at the end", x.fits(x.fits(NONE) - 1), 31);
        by("III: without a TOTAL nothing is");
        x = told(text(16, "0", "0"));
        see(x, 0, 0, 255);
        due("0 is not OPEN", x.fits(0), NONE);
        due("fits(NONE)", x.fits(NONE), 0);
        see(x, 0, 0, 0);
        due("1 and on: it alone", x.fits(NONE), 31);
        due("1", x.fits(0), 1);
        by("III: with the least TOTAL all is");
        x = told(text(16, "1 by 1024", "0"));
        see(x, 1, 0, 0);
        due("0: a has the one part", x.fits(0), 0);
        due("others ask for more than eight bits", x.fits(NONE), 1);
        by("III: others as they are; its own NEW is of no matter");
        x = told(text(16, "1", "5", "0"));
        see(x, 1, 0x80, 1);
        due("fits(0)", x.fits(0), 1);
        weigh(x, 1, 9 * 1024);
        due("fits(0)", x.fits(0), 1);
        weigh(x, 0, 5 * 1024);
        // Up to 3 there are three bits: 100 is below 5; by 4 and on 1000, 10000 and 100000 are not.
        due("fits(0) by NEW of a", x.fits(0), 4);
        due("fits(NONE) by NEW of a", x.fits(NONE), 28);
        by("III: 255: OPEN");
        x = told(text(16, "1", "1"));
        see(x, 1, 0xFF, 255);
        // Where all is a power of 2 (1, 2, 4, 8, 16, 32), as many bits of 1 are the last part.
        due("2 is the first that is OPEN", x.fits(0), 2);
        due("all but 0, 1, 3, 7, 15, 31", x.fits(NONE), 26);
    }

    private static void tellsAsked() {
        by("36: NONE without FITS, for others, or when nothing is SEEN");
        ShareWheel x = told(HALVES);
        due("nothing is SEEN", x.tells(0), NONE);
        due("nothing is SEEN", x.tells(1), NONE);
        see(x, 1, 0, 1);
        due("without FITS", x.tells(0), NONE);
        due("without FITS", x.tells(1), NONE);
        see(x, 1, 0xC0, 0, 0x20, 1, 0x10, 0);
        due("4 and 5 fit", x.fits(NONE), 2);
        due("tells(2)", x.tells(2), NONE);
        due("tells(-1)", x.tells(-1), NONE);
        dueFar("tells", x::tells, NONE);
        due("without a wheel", new ShareWheel().tells(0), NONE);
        by("III: TELLING is the byte by whose THING the most FITS left are fewest; of like ones the least");
        // By 4: three bits, 5 and on are none; by 5: 6 and on. The first byte with 101 at its head tells.
        due("tells(0)", x.tells(0), 0xA0);
        due("tells(1)", x.tells(1), 1);
        see(x, 1, 0xC0, 0, 0x20, 1, 0x10, 0, 0xA0, 1);
        due("one alone: the least byte", x.tells(0), 0);
        due("one alone", x.tells(1), 1);
        // One THING alone: by 30 and 31 five bits are asked; 30 is OPEN by 11110, 31 is not. 11111 is OPEN by 5, 6
        // and 17 on, 11101 a THING by 5, 6, 30 and 31, 110 110 a THING by 30 and 31.
        ShareWheel alone = told(text(16, "1"));
        due("see()", see(alone, 0, 0xF8, 255, 0xE8, 0, 0xD8, 0), 3);
        due("30 and 31 fit", alone.fits(NONE), 2);
        due("30 and 31 fit", alone.fits(0), 30);
        due("OPEN tells from a THING", alone.tells(0), 0xF0);
        due("OPEN tells from a THING", alone.tells(1), 1);
        // By 0 there is one part; by others more than eight bits are asked.
        ShareWheel y = told(text(16, "9999", "0"));
        see(y, 1, 255, 255);
        due("fits(NONE)", y.fits(NONE), 31);
        due("all bytes are OPEN: the least", y.tells(0), 0);
        due("all bytes are OPEN: all FITS are left", y.tells(1), 31);
        // By 0 there are 255 parts, by 1 256, by others more than eight bits are asked.
        ShareWheel z = told(text(16, "255", "1"));
        see(z, 1, 0, 0);
        due("fits(NONE)", z.fits(NONE), 2);
        due("the greatest byte: OPEN, or b", z.tells(0), 255);
        due("the greatest byte: OPEN, or b", z.tells(1), 1);
    }

    // ---- images

    private static void imageWritten() {
        by("46: how many bytes (2 without a wheel)");
        ShareWheel x = new ShareWheel();
        due("image() without a wheel", x.image(), 2);
        due("octet(0)", x.octet(0), 0);
        due("octet(1): 3 times 179 mod 251", x.octet(1), 35);
        tell(x, "wheel merge 16;");
        due("image() without THINGS", x.image(), 2);
        due("octet(0)", x.octet(0), 16);
        due("octet(1)", x.octet(1), 51);
        due("one THING", told(text(2, "1")).image(), 10);
        x = told(sixteen(16, "9999"));
        for (int i = 0; i < 4; i++) {
            weigh(x, i, 0);
        }
        due("sixteen THINGS", x.image(), 130);
        int[] weights = new int[32];
        for (int i = 0; i < 16; i++) {
            weights[2 * i] = MOST;
            weights[2 * i + 1] = i < 4 ? 0 : MOST;
        }
        int[] want = image(16, weights);
        for (int k = 0; k < 130; k++) {
            due("octet(" + k + ")", x.octet(k), want[k]);
        }
        by("AN IMAGE: OLD and NEW (four bytes each, the highest first)");
        x = told(text(3, "8192", "0"));
        weigh(x, 0, 0x810203);
        x.image();
        int[] bytes = {3, 0, 0x80, 0, 0, 0, 0x81, 2, 3, 0, 0, 0, 0, 0, 0, 0, 0};
        for (int k = 0; k < bytes.length; k++) {
            due("octet(" + k + ")", x.octet(k), bytes[k]);
        }
        due("octet(17)", x.octet(17), check(Arrays.copyOf(bytes, 18)));
    }

    private static void octetAsked() {
        by("47: Byte k of the latest image(); NONE when there is none such");
        ShareWheel x = told(text(2, "1"));
        due("octet(0) ahead of any", x.octet(0), NONE);
        x.image();
        due("octet(0)", x.octet(0), 2);
        due("octet(9)", x.octet(9), check(image(2, 1024, 1024)));
        due("octet(10)", x.octet(10), NONE);
        due("octet(-1)", x.octet(-1), NONE);
        dueFar("octet", x::octet, NONE);
        x.merge(7);
        due("as it was written", x.octet(0), 2);
        x.image();
        due("of the latest", x.octet(0), 7);
        x.undo();
        due("undo() leaves it", x.octet(0), 7);
        tell(x, "wheel merge 4;");
        due("wheel() leaves it", x.octet(9) >= 0, true);
        x.image();
        due("a shorter one", x.octet(2), NONE);
    }

    private static void onTaken() {
        by("48: true, it is as that tells, nothing is STORED, all COUNTS are 0, nothing can be undone");
        ShareWheel x = told(TWO);
        store(x, 1, 2, 3);
        x.pick(1);
        x.chance(5, 1);
        x.merge(5);
        weigh(x, 0, 0);
        x.merged();
        see(x, 1, 0, 0);
        set(x, 0, Double.NaN);
        int taken = x.has(11);
        int seed = x.has(14);
        due("on()", on(x, image(9, 4096, 4097, 8192, 8191)), true);
        dueTapeGone(x);
        int[] want = {2, 9, 4097 + 8191, 12288, 1, 1, 1, 2, 1, 0, 0, taken, 1, 0, seed};
        for (int what = 0; what < 15; what++) {
            due("has(" + what + ")", x.has(what), want[what]);
        }
        due("THE TABLE", x.column(0, 0), 8192);
        due("COUNT of b", x.thing(1, 4), 0);
        due("undo()", x.undo(), false);
        due("pick(1)", x.pick(1), OPEN);
        due("why(0)", x.why(0), 2);
        due("letter(1, 0)", x.letter(1, 0), 2);
        due("what comes then can be undone", set(x, 0, 4), 4096);
        due("undo()", x.undo(), true);
        due("thing(0, 1)", x.thing(0, 1), 4097);
        due("undo()", x.undo(), false);
    }

    private static void onEdges() {
        by("48: the edges of what an image can tell");
        ShareWheel x = told(TWO);
        due("0 to merge, all weights 0", on(x, image(0, 0, 0, 0, 0)), true);
        due("has(1)", x.has(1), 0);
        due("has(2)", x.has(2), 0);
        due("has(6)", x.has(6), 1);
        due("column(0, 0)", x.column(0, 0), NONE);
        due("16 to merge, the greatest weights", on(x, image(16, MOST, MOST, MOST, MOST)), true);
        due("has(1)", x.has(1), 16);
        due("has(2)", x.has(2), 2 * MOST);
        due("17 to merge", on(x, image(17, 1, 1, 1, 1)), false);
        due("255 to merge", on(x, image(255, 1, 1, 1, 1)), false);
        for (int i = 0; i < 4; i++) {
            for (int bad : new int[] {MOST + 1, Integer.MAX_VALUE, -1, Integer.MIN_VALUE, 1 << 24}) {
                int[] weights = {1, 1, 1, 1};
                weights[i] = bad;
                due("a weight of " + bad, on(x, image(1, weights)), false);
            }
        }
        due("status(5)", x.status(5), 22);
        due("all stays", x.has(2), 2 * MOST);
        due("all stays", x.has(1), 16);
        due("without THINGS", on(told("wheel merge 3;"), image(0)), true);
        due("without THINGS", on(told("wheel merge 3;"), image(16)), true);
        due("without THINGS", on(told("wheel merge 3;"), image(17)), false);
        int[] weights = new int[32];
        Arrays.fill(weights, MOST);
        due("sixteen THINGS", on(told(sixteen(2, "1")), image(16, weights)), true);
    }

    private static void onNone() {
        by("48: false, refused (5), all staying, when it is none, or without a wheel");
        ShareWheel x = new ShareWheel();
        due("without a wheel", on(x, 0, 35), false);
        dueTapeGone(x);
        due("status(5)", x.status(5), 1);
        x = told(TWO);
        store(x, 7);
        x.chance(4, 1);
        weigh(x, 0, 1025);
        int[] good = image(2, 5, 6, 7, 8);
        due("no tape", x.on(), false);
        for (int n : new int[] {1, 2, 10, 16, 17, 19, 20, 26, 1200}) {
            int[] bytes = Arrays.copyOf(good, n);
            bytes[n - 1] = check(bytes);
            due(n + " bytes", on(x, bytes), false);
        }
        for (int add : new int[] {1, 2, 128, 250}) {
            int[] bytes = good.clone();
            bytes[17] = (bytes[17] + add) % 251;
            due("another check", on(x, bytes), false);
        }
        for (int k : new int[] {0, 4, 8, 12, 16}) {
            int[] bytes = good.clone();
            bytes[k]++;
            due("another byte " + k, on(x, bytes), false);
        }
        dueTapeGone(x);
        due("status(5)", x.status(5), 19);
        due("has(9)", x.has(9), 8);
        due("has(10)", x.has(10), 4);
        due("has(13)", x.has(13), 3);
        due("thing(0, 1)", x.thing(0, 1), 1025);
        due("undo()", x.undo(), true);
        due("the good one", on(x, good), true);
        by("48: a check is below 251");
        for (int w = 0; w < 300; w++) {
            int[] bytes = image(1, 1, 1, 1, w);
            if (bytes[17] < 5) {
                due("a check as it is due", on(told(TWO), bytes), true);
                bytes[17] += 251;
                due("a check of 251 more", on(told(TWO), bytes), false);
            }
        }
    }

    private static void onWithoutMerging() {
        by("48: no MERGING comes by it");
        ShareWheel x = told(text(0, "4", "4"));
        due("unlike ones with 0 to merge", on(x, image(0, 4096, 4097, 4096, 4096)), true);
        due("has(8)", x.has(8), 0);
        due("has(7)", x.has(7), 1);
        due("4 Q above T", on(x, image(16, 4096, 2048, 4096, 4095)), true);
        due("has(8)", x.has(8), 0);
        due("Q", x.has(5), 2049);
        due("T", x.has(3), 8192);
        weigh(x, 1, 5120);
        due("4 Q is T by that change: none", x.has(8), 0);
        weigh(x, 1, 4095);
        due("4 Q is above T by that change", x.has(8), 1);
        due("T", x.has(3), 2048 + 4095);
    }
}
