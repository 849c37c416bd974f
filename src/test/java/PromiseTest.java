/** The document's promises one by one, with answers that were worked out by hand. */
public final class PromiseTest {
    private static final int NONE = -1;
    private static final int OPEN = -2;
    private static final String TWO = "wheel merge 2;thing a weighs 1;thing b weighs 3;";
    private static final String THREE = TWO + "thing c weighs 4;";
    private static final String TEAMS = THREE + "team x of a,b;team y of c;";
    /** Bands: a in 0, b and c in 1; d has no weight. */
    private static final String BANDS =
            "wheel merge 4;thing a weighs 1;thing b weighs 3;thing c weighs 2;thing d weighs 0;";
    private static final String EVEN = "wheel merge 4;thing a weighs 4;thing b weighs 4;";

    private static int wrong = 0;
    private static int asked = 0;
    private static int promise = 0;

    public static void main(String[] args) {
        newObject();
        tape();
        wheelTexts();
        wheelFaults();
        wheelResets();
        whatThereIs();
        namesAndWeights();
        tableOfColumns();
        ranks();
        shares();
        wouldAndNeeds();
        mergesAsked();
        owedAndCreditor();
        teams();
        picksInTeams();
        quotas();
        triesByTable();
        triesByPartsAndBands();
        bands();
        deals();
        pairs();
        rows();
        fewestAndLongest();
        seenAndFits();
        telling();
        setAndWhy();
        mergeAndMerged();
        storeAndPick();
        storeIsBounded();
        storeKeepsItsOrder();
        leastWeights();
        dealOfSixteen();
        chance();
        undo();
        seeds();
        images();
        imagesTakenOn();
        statuses();
        System.out.println("PromiseTest: " + asked + " answers, " + wrong + " wrong");
        if (wrong != 0) {
            System.exit(1);
        }
    }

    // ---- helpers

    private static void due(String call, long got, long want) {
        asked++;
        if (got != want) {
            wrong++;
            System.out.println("promise " + promise + ": " + call + " answered " + got + ", due is " + want);
        }
    }

    private static void due(String call, boolean got, boolean want) {
        due(call, got ? 1 : 0, want ? 1 : 0);
    }

    private static void feedBytes(ShareWheel x, int... bytes) {
        x.end(0);
        for (int at = 0; at < bytes.length; at += 20) {
            int[] w = new int[5];
            for (int i = 0; i < 20 && at + i < bytes.length; i++) {
                w[i / 4] |= (bytes[at + i] & 255) << (24 - 8 * (i % 4));
            }
            x.feed(w[0], w[1], w[2], w[3], w[4]);
        }
        due("end of the bytes", x.end(bytes.length), true);
    }

    private static int tell(ShareWheel x, String text) {
        int[] bytes = new int[text.length()];
        for (int i = 0; i < bytes.length; i++) {
            bytes[i] = text.charAt(i);
        }
        feedBytes(x, bytes);
        return x.wheel();
    }

    private static ShareWheel made(String text) {
        ShareWheel x = new ShareWheel();
        due("wheel() of " + text, tell(x, text) > 0, true);
        return x;
    }

    private static int setTo(ShareWheel x, int thing, double weight) {
        long bits = Double.doubleToRawLongBits(weight);
        return x.set(thing, (int) (bits >> 32), (int) bits);
    }

    private static int tryBits(ShareWheel x, int way, int what, int... bytes) {
        feedBytes(x, bytes);
        return x.tries(way, what);
    }

    private static int deal(ShareWheel x, int k, int... bytes) {
        feedBytes(x, bytes);
        return x.deals(k);
    }

    private static int storeBytes(ShareWheel x, int... bytes) {
        feedBytes(x, bytes);
        return x.store();
    }

    private static void fault(String text, int kind, int place) {
        ShareWheel x = new ShareWheel();
        due("wheel() of '" + text + "'", tell(x, text), NONE);
        due("fault(0) of '" + text + "'", x.fault(0), kind);
        due("fault(1) of '" + text + "'", x.fault(1), place);
    }

    private static void good(String text, int statements) {
        ShareWheel x = new ShareWheel();
        due("wheel() of '" + text + "'", tell(x, text), statements);
        due("fault(0) of '" + text + "'", x.fault(0), 0);
        due("fault(1) of '" + text + "'", x.fault(1), NONE);
    }

    // ---- promises

    private static void newObject() {
        promise = 1;
        ShareWheel x = new ShareWheel();
        for (int what = 0; what < 14; what++) {
            due("has(" + what + ")", x.has(what), 0);
        }
        due("has(14)", x.has(14), 1);
        due("octet(0)", x.octet(0), NONE);
        due("why(0)", x.why(0), 0);
        due("why(1)", x.why(1), 0);
        for (int what = 0; what < 6; what++) {
            due("status(" + what + ")", x.status(what), 0);
        }
    }

    private static void tape() {
        promise = 2;
        ShareWheel x = new ShareWheel();
        for (int i = 1; i <= 60; i++) {
            due("feed " + i, x.feed(0, 0, 0, 0, 0), 20 * i);
        }
        due("feed of a full tape", x.feed(0, 0, 0, 0, 0), NONE);
        due("status(0)", x.status(0), 1);
        promise = 3;
        due("end(1201)", x.end(1201), false);
        due("end(-1)", x.end(-1), false);
        due("status(0)", x.status(0), 3);
        due("end(1200)", x.end(1200), true);
        due("end(1181)", x.end(1181), true);
        due("feed", x.feed(0, 0, 0, 0, 0), NONE);
        due("end(1180)", x.end(1180), true);
        due("feed", x.feed(0, 0, 0, 0, 0), 1200);
        due("end(3)", x.end(3), true);
        due("end(4)", x.end(4), false);
        due("feed", x.feed(0x01020304, 0, 0, 0, 0), 23);
        due("end(7)", x.end(7), true);
        // Bytes come behind those that are there, the highest first, wherever these end.
        tell(x, "wheel merge 1;thing a weighs 8;");
        x.end(0);
        x.feed(0xFF000000, 0, 0, 0, 0);
        x.end(1);
        x.feed(0x01800000, 0, 0, 0, 0);
        x.end(3);
        due("store()", x.store(), 24);
        feedBytes(x);
        due("wheel()", tell(x, "wheel merge 1;thing a weighs 9999;thing b weighs 6385;"), 3);
        // 16384 in all: fourteen bits are the number itself.
        x.feed(0xFF000000, 0, 0, 0, 0);
        x.end(1);
        x.feed(0x01800000, 0, 0, 0, 0);
        x.end(3);
        due("tries of 11111111000000..", x.tries(1, 0), 1);
        due("tries of no bits", x.tries(1, 0), OPEN);
        // What was cut off is not read any more.
        x.feed(0x77686565, 0x6C206D65, 0x72676520, 0x313B2020, 0x20202020);
        x.end(13);
        due("wheel() without its last sign", x.wheel(), NONE);
        due("fault(1)", x.fault(1), 13);
        x.feed(0x77686565, 0x6C206D65, 0x72676520, 0x313B2020, 0x20202020);
        x.end(12);
        due("wheel() without its number", x.wheel(), NONE);
        due("fault(1)", x.fault(1), 12);
        // The last bytes of a full tape count like others.
        StringBuilder far = new StringBuilder(" ".repeat(1200 - TWO.length())).append(TWO);
        due("wheel() at the tape's end", tell(x, far.toString()), 3);
        far.setCharAt(1199, 'x');
        due("wheel() at the tape's end", tell(x, far.toString()), NONE);
        due("fault(1)", x.fault(1), 1199);
    }

    private static void wheelTexts() {
        promise = 4;
        good("wheel merge 0;", 1);
        good("wheel merge 16;", 1);
        good("\n wheel\nmerge  0016 ; ", 1);
        good("wheel merge 2;thing a weighs 1;thing b weighs 2 by 1024;team c of b,a;", 4);
        good("wheel merge 2 ;thing\nabcdef\nweighs\n0\nby\n0001\n;team bya of abcdef ;\n", 3);
        good("wheel merge 2;thing things weighs 1;thing teams weighs 1;team ofof of things , teams;", 4);
        StringBuilder most = new StringBuilder("wheel merge 2;");
        for (char c = 'a'; c < 'q'; c++) {
            most.append("thing ").append(c).append(" weighs 9999;");
        }
        most.append("team q of a;team r of a;team s of p;team t of p,o,n,m,l,k,j,i,h,g,f,e,d,c,b,a;");
        good(most.toString(), 21);
        ShareWheel x = made(most.toString());
        due("has(0)", x.has(0), 16);
        due("has(2)", x.has(2), 163823616);
        due("team(3, 0)", x.team(3, 0), 65535);
        due("a wheel without things has 1 as GRAIN", made("wheel merge 3;").has(6), 1);
        due("has(1)", made("wheel merge 3;").has(1), 3);
    }

    private static void wheelFaults() {
        promise = 5;
        due("fault(2)", new ShareWheel().fault(2), NONE);
        due("fault(-1)", new ShareWheel().fault(-1), NONE);
        fault("", 1, 0);
        fault("  \n", 1, 3);
        fault("thing a weighs 1;", 1, 0);
        fault("wheels merge 1;", 1, 0);
        fault("whee merge 1;", 1, 0);
        fault("wheelmerge 1;", 1, 0);
        fault(" Wheel merge 1;", 1, 1);
        fault("wheel merge1;", 1, 11);
        fault("wheel merge x;", 1, 12);
        fault("wheel merge ;", 1, 12);
        fault("wheel merge", 1, 11);
        fault("wheel merge ", 1, 12);
        fault("wheel merge 17;", 2, 12);
        fault("wheel merge 9999;", 2, 12);
        fault("wheel merge 00001;", 1, 16);
        fault("wheel merge 1", 1, 13);
        fault("wheel merge 1 2;", 1, 14);
        fault("wheel merge 1;wheel merge 1;", 1, 14);
        fault("wheel merge 1;;", 1, 14);
        fault("wheel merge 1;thin a weighs 1;", 1, 14);
        fault("wheel merge 1;thing", 1, 19);
        fault("wheel merge 1;thing 1", 1, 20);
        fault("wheel merge 1;thing A weighs 1;", 1, 20);
        fault("wheel merge 1;thing abcdefgh weighs 1;", 1, 26);
        for (String own : new String[] {"wheel", "merge", "thing", "weighs", "by", "team", "of"}) {
            fault("wheel merge 1;thing " + own + " weighs 1;", 1, 20);
        }
        fault("wheel merge 1;thing a of 1;", 1, 22);
        fault("wheel merge 1;thing a1 weighs 1;", 1, 21);
        fault("wheel merge 1;thing a weighs1;", 1, 28);
        fault("wheel merge 1;thing a weighs 12345;", 1, 33);
        fault("wheel merge 1;thing a weighs 1by 2;", 1, 30);
        fault("wheel merge 1;thing a weighs 1x;", 1, 30);
        fault("wheel merge 1;thing a weighs 1 to 2;", 1, 31);
        fault("wheel merge 1;thing a weighs 1 by2;", 1, 33);
        fault("wheel merge 1;thing a weighs 1 by 2", 1, 35);
        fault("wheel merge 1;thing a weighs 1 by 2 by 2;", 1, 36);
        for (int by : new int[] {0, 3, 5, 6, 7, 1023, 1025, 2048, 4096}) {
            fault("wheel merge 1;thing a weighs 1 by " + by + ";", 2, 34);
        }
        fault("wheel merge 1;thing a weighs 1;thing a weighs 2;", 3, 37);
        fault("wheel merge 1;thing a weighs 1;team a of a;", 3, 36);
        fault("wheel merge 1;thing a weighs 1;team b of b;", 3, 41);
        fault("wheel merge 1;thing a weighs 1;team b of a;thing b weighs 1;", 3, 49);
        fault("wheel merge 1;thing a weighs 1;team b of a;team b of a;", 3, 48);
        fault("wheel merge 1;thing a weighs 1;team b of a;team c of b;", 3, 53);
        fault("wheel merge 1;thing a weighs 1;team b of a,a;", 3, 43);
        fault("wheel merge 1;thing a weighs 1;team b of c;", 3, 41);
        fault("wheel merge 1;thing a weighs 1;team b of of;", 1, 41);
        fault("wheel merge 1;thing a weighs 1;team b of ;", 1, 41);
        fault("wheel merge 1;thing a weighs 1;team b of a,;", 1, 43);
        fault("wheel merge 1;thing a weighs 1;team b of a a;", 1, 43);
        fault("wheel merge 1;thing a weighs 1;team b by a;", 1, 38);
        fault("wheel merge 1;thing a weighs 1;\u00e9", 1, 31);
        fault("wheel merge 1;thing a weighs 1;\t", 1, 31);
        StringBuilder many = new StringBuilder("wheel merge 1;");
        for (char c = 'a'; c < 'q'; c++) {
            many.append("thing ").append(c).append(" weighs 1;");
        }
        fault(many + "thing of weighs 1;", 5, many.length());
        StringBuilder crowd = new StringBuilder("wheel merge 1;thing a weighs 1;");
        for (char c = 'b'; c < 'f'; c++) {
            crowd.append("team ").append(c).append(" of a;");
        }
        fault(crowd + " team a of z;", 5, crowd.length() + 1);
        ShareWheel x = new ShareWheel();
        tell(x, "wheel");
        tell(x, TWO);
        due("fault(0) of the latest", x.fault(0), 0);
        due("fault(1) of the latest", x.fault(1), NONE);
    }

    private static void wheelResets() {
        promise = 4;
        ShareWheel x = made(TWO);
        storeBytes(x, 0x1B, 0x2C);
        x.pick(1);
        x.chance(3, 1);
        setTo(x, 0, 2);
        x.merged();
        feedBytes(x, 0x80, 1);
        due("see(1)", x.see(1), 1);
        int seed = x.has(14);
        int[] ahead = new int[15];
        for (int what = 0; what < 15; what++) {
            ahead[what] = x.has(what);
        }
        due("a text with a fault", tell(x, "wheel merge 9;thing"), NONE);
        due("status(1)", x.status(1), 1);
        for (int what = 0; what < 15; what++) {
            due("has(" + what + ") stays", x.has(what), ahead[what]);
        }
        due("letter(1, 0) stays", x.letter(1, 0), 2);
        due("the tape goes", x.end(1), false);
        due("another wheel", tell(x, "wheel merge 1;thing z weighs 5;"), 2);
        for (int what = 8; what < 14; what++) {
            due("has(" + what + ")", x.has(what), 0);
        }
        due("has(14)", x.has(14), seed);
        due("undo()", x.undo(), false);
        due("thing(0, 4)", x.thing(0, 4), 0);
        due("team(0, 0)", x.team(0, 0), NONE);
        due("fits(NONE)", x.fits(NONE), NONE);
    }

    private static void whatThereIs() {
        promise = 6;
        ShareWheel x = made("wheel merge 3;thing a weighs 6;thing b weighs 9;thing c weighs 3;");
        setTo(x, 0, 4.5);
        setTo(x, 1, 12);
        int[] want = {3, 3, (9 + 24 + 6) * 512, 18 * 1024, 3 * 1024, 1536, 1536, 2, 0, 0, 0, 0, 0, 2, 1};
        for (int what = 0; what < want.length; what++) {
            due("has(" + what + ")", x.has(what), want[what]);
        }
        due("has(15)", x.has(15), NONE);
        due("has(-1)", x.has(-1), NONE);
        x.merged();
        due("has(8)", x.has(8), 1);
        due("has(7)", x.has(7), 0);
        due("has(3)", x.has(3), x.has(2));
        storeBytes(x, 1, 2);
        due("has(9)", x.has(9), 16);
        x.pick(1);
        due("has(9) behind a pick of 4 bits", x.has(9), 12);
        due("has(11)", x.has(11), 4);
        due("has(10)", x.has(10), 1);
        feedBytes(x, 1, 0, 2, 255, 3, 1);
        due("see", x.see(2), 3);
        due("has(12)", x.has(12), 3);
        due("has(13)", x.has(13), 5);
        due("GRAIN with all weights 0", made("wheel merge 1;thing a weighs 0;").has(6), 1);
    }

    private static void namesAndWeights() {
        ShareWheel x = made("wheel merge 4;thing azby weighs 3 by 1024;thing qwerty weighs 9999;");
        promise = 7;
        int[] first = {1, 26, 2, 25, 0, 0};
        int[] second = {17, 23, 5, 18, 20, 25};
        for (int k = 0; k < 6; k++) {
            due("letter(0, " + k + ")", x.letter(0, k), first[k]);
            due("letter(1, " + k + ")", x.letter(1, k), second[k]);
        }
        due("letter(0, 6)", x.letter(0, 6), NONE);
        due("letter(0, -1)", x.letter(0, -1), NONE);
        due("letter(2, 0)", x.letter(2, 0), NONE);
        due("letter(-1, 0)", x.letter(-1, 0), NONE);
        promise = 8;
        setTo(x, 0, 1);
        setTo(x, 1, 9000.5);
        x.chance(7, 1);
        int[] a = {3, 1024, 1021, 0};
        int[] b = {10238976, 9216512, 0, 1022464};
        for (int what = 0; what < 4; what++) {
            due("thing(0, " + what + ")", x.thing(0, what), a[what]);
            due("thing(1, " + what + ")", x.thing(1, what), b[what]);
        }
        due("COUNTS", x.thing(0, 4) + x.thing(1, 4), 7);
        due("thing(0, 5)", x.thing(0, 5), NONE);
        due("thing(0, -1)", x.thing(0, -1), NONE);
        due("thing(2, 0)", x.thing(2, 0), NONE);
        due("thing(-1, 0)", x.thing(-1, 0), NONE);
        promise = 9;
        for (int parts : new int[] {0, 1, 2, 3, 1023, 1024, 1025, 4095, 65537, 10238975, 10238976}) {
            setTo(x, 0, parts / 1024.0);
            due("weight of " + parts, x.weight(0), Double.doubleToLongBits(parts / 1024.0));
        }
        due("weight(2)", x.weight(2), -1L);
        due("weight(-1)", x.weight(-1), -1L);
    }

    private static void tableOfColumns() {
        promise = 10;
        // REST 6, 4, 2, 20 of T 8: a closed by d (18), b by d (14), c by d (8).
        ShareWheel x = made("wheel merge 2;thing a weighs 3 by 2;thing b weighs 1;thing c weighs 1 by 2;"
                + "thing d weighs 5;");
        int[] own = {12, 8, 4, 16};
        int[] alias = {3, 3, 3, 3};
        for (int i = 0; i < 4; i++) {
            due("column(" + i + ", 0)", x.column(i, 0), own[i]);
            due("column(" + i + ", 1)", x.column(i, 1), alias[i]);
        }
        due("column(4, 0)", x.column(4, 0), NONE);
        due("column(-1, 0)", x.column(-1, 0), NONE);
        due("column(0, 2)", x.column(0, 2), NONE);
        promise = 11;
        due("mass(0)", x.mass(0), 12);
        due("mass(3)", x.mass(3), 40);
        due("mass(4)", x.mass(4), NONE);
        promise = 10;
        // REST 15, 3, 6 of T 8: b is closed by a (10), c by a (8).
        x = made("wheel merge 2;thing a weighs 5;thing b weighs 1;thing c weighs 2;");
        due("column(1, 0)", x.column(1, 0), 3);
        due("column(1, 1)", x.column(1, 1), 0);
        due("column(2, 0)", x.column(2, 0), 6);
        due("column(0, 0)", x.column(0, 0), 8);
        due("column(0, 1)", x.column(0, 1), 0);
        // REST 9, 15, 0 of T 8: c is closed by a, which is poor by that (1), and closed by b (8).
        x = made("wheel merge 2;thing a weighs 3;thing b weighs 5;thing c weighs 0;");
        due("column(2, 0)", x.column(2, 0), 0);
        due("column(2, 1)", x.column(2, 1), 0);
        due("column(0, 0)", x.column(0, 0), 1);
        due("column(0, 1)", x.column(0, 1), 1);
        due("column(1, 0)", x.column(1, 0), 8);
        promise = 11;
        due("mass(0)", x.mass(0), 9);
        due("mass(1)", x.mass(1), 15);
        due("mass(2)", x.mass(2), 0);
        promise = 10;
        // The table stays as the OLD weights are; by GRAIN it is told in smaller parts.
        setTo(x, 0, 3.5);
        due("column(2, 1) behind set()", x.column(2, 1), 0);
        due("column(1, 0) behind set()", x.column(1, 0), 16);
        promise = 11;
        due("mass(1) behind set()", x.mass(1), 30);
        x.merged();
        due("mass(0) behind merged()", x.mass(0), 21);
        x = made("wheel merge 16;thing a weighs 0;");
        due("mass(0) without T", x.mass(0), NONE);
        promise = 10;
        due("column(0, 0) without T", x.column(0, 0), NONE);
        setTo(x, 0, 1);
        due("column(0, 0) without T", x.column(0, 0), NONE);
    }

    private static void ranks() {
        promise = 12;
        ShareWheel x = made("wheel merge 9;thing a weighs 2;thing b weighs 7;thing c weighs 2;thing d weighs 0;");
        int[] order = {1, 0, 2, 3};
        for (int k = 0; k < 4; k++) {
            due("rank(" + k + ")", x.rank(k), order[k]);
        }
        due("rank(4)", x.rank(4), NONE);
        due("rank(-1)", x.rank(-1), NONE);
        setTo(x, 2, 8);
        due("rank(0) by NEW", x.rank(0), 2);
    }

    private static void shares() {
        promise = 13;
        ShareWheel x = made(THREE);
        setTo(x, 2, 4.5);
        due("share(0, 0)", x.share(0, 0), 2);
        due("share(0, 1)", x.share(0, 1), 17);
        due("share(2, 0)", x.share(2, 0), 9);
        due("share(2, 1)", x.share(2, 1), 17);
        due("share(3, 0)", x.share(3, 0), NONE);
        due("share(-1, 0)", x.share(-1, 0), NONE);
        due("share(0, 2)", x.share(0, 2), NONE);
        due("share(0, -1)", x.share(0, -1), NONE);
        setTo(x, 0, 0);
        due("share of no weight", x.share(0, 0), 0);
        due("share of no weight", x.share(0, 1), 1);
        due("share without a TOTAL", made("wheel merge 1;thing a weighs 0;").share(0, 1), NONE);
        promise = 14;
        x = made(EVEN);
        setTo(x, 0, 2);
        setTo(x, 1, 5);
        due("goes(0)", x.goes(0), 9);
        due("goes(1)", x.goes(1), 7);
        due("goes(2)", x.goes(2), NONE);
        due("goes without a TOTAL", made("wheel merge 1;thing a weighs 0;").goes(0), NONE);
        setTo(x, 1, 4);
        due("goes(0)", x.goes(0), 4);
        due("goes(1)", x.goes(1), 3);
    }

    private static void wouldAndNeeds() {
        promise = 15;
        ShareWheel x = made(THREE);
        due("would", x.would(2, 6 * 1024, 1, 0), 3);
        due("would", x.would(2, 6 * 1024, 1, 1), 10);
        due("would of itself", x.would(2, 6 * 1024, 2, 0), 3);
        due("would of itself", x.would(2, 6 * 1024, 2, 1), 5);
        due("would of the greatest", x.would(0, 10238976, 0, 0), 9999);
        due("would of the greatest", x.would(0, 10238976, 0, 1), 10006);
        due("would of too much", x.would(0, 10238977, 0, 0), NONE);
        due("would of too little", x.would(0, -1, 0, 0), NONE);
        due("would of no thing", x.would(3, 0, 0, 0), NONE);
        due("would of no thing", x.would(0, 0, 3, 0), NONE);
        due("would of others", x.would(0, 0, 0, 2), NONE);
        due("nothing changed by it", x.has(2), 8192);
        x = made("wheel merge 1;thing a weighs 1;thing b weighs 0;");
        due("would without a TOTAL", x.would(0, 0, 1, 0), NONE);
        due("would with one", x.would(1, 5, 1, 0), 5);
        promise = 16;
        x = made(THREE);
        due("needs(0, 1, 2)", x.needs(0, 1, 2), 7168);
        due("needs(0, 1, 3)", x.needs(0, 1, 3), 3584);
        due("needs(1, 1, 7)", x.needs(1, 1, 7), 854);
        due("needs(0, 0, 7)", x.needs(0, 0, 7), 0);
        due("needs(0, 1, 1)", x.needs(0, 1, 1), NONE);
        due("needs(0, 3, 2)", x.needs(0, 3, 2), NONE);
        due("needs(0, 999, 1000)", x.needs(0, 999, 1000), 7168 * 999);
        due("needs(0, -1, 2)", x.needs(0, -1, 2), NONE);
        due("needs(0, 1, 0)", x.needs(0, 1, 0), NONE);
        due("needs(0, 1, 1001)", x.needs(0, 1, 1001), NONE);
        due("needs(0, 1001, 1000)", x.needs(0, 1001, 1000), NONE);
        due("needs(0, 1000, 1000)", x.needs(0, 1000, 1000), NONE);
        due("needs(3, 1, 2)", x.needs(3, 1, 2), NONE);
        x = made("wheel merge 1;thing a weighs 9;thing b weighs 9999 by 2;");
        due("needs the greatest", x.needs(0, 2, 3), 9999 * 1024);
        due("needs more", x.needs(0, 667, 1000), NONE);
        x = made("wheel merge 1;thing a weighs 9;thing b weighs 0;");
        due("needs alone", x.needs(0, 1, 1), 1);
        due("needs alone", x.needs(0, 0, 1), 1);
    }

    private static void mergesAsked() {
        promise = 17;
        ShareWheel x = made(THREE);
        due("merges(2, 2048)", x.merges(2, 2048), 0);
        due("merges(2, 2047)", x.merges(2, 2047), 1);
        due("merges(2, 10238976)", x.merges(2, 10238976), 0);
        due("merges(2, 10238977)", x.merges(2, 10238977), NONE);
        due("merges(2, -1)", x.merges(2, -1), NONE);
        due("merges(3, 0)", x.merges(3, 0), NONE);
        due("merges(-1, 0)", x.merges(-1, 0), NONE);
        setTo(x, 0, 2);
        setTo(x, 1, 4);
        due("a third unlike one", x.merges(2, 4097), 1);
        due("the same weight", x.merges(2, 4096), 0);
        due("one of the two", x.merges(1, 5000), 0);
        due("nothing changed by it", x.has(8), 0);
        x = made(EVEN);
        setTo(x, 0, 2);
        due("LESS of two", x.merges(1, 4095), 1);
        due("less LESS", x.merges(0, 4000), 0);
    }

    private static void owedAndCreditor() {
        promise = 18;
        ShareWheel x = made(TWO);
        x.chance(5, 1);
        due("COUNT of a", x.thing(0, 4), 2);
        due("COUNT of b", x.thing(1, 4), 3);
        due("owed(0)", x.owed(0), -1);
        due("owed(1)", x.owed(1), 0);
        due("owed(2)", x.owed(2), -1000000);
        due("owed(-1)", x.owed(-1), -1000000);
        promise = 19;
        due("creditor(0)", x.creditor(0), 1);
        due("creditor(1)", x.creditor(1), 0);
        due("creditor(2)", x.creditor(2), NONE);
        due("creditor(-1)", x.creditor(-1), NONE);
        x = made(THREE);
        due("the first of like ones", x.creditor(0), 0);
        due("the first of like ones", x.creditor(1), 0);
        x = made("wheel merge 1;thing a weighs 0;");
        due("creditor without a TOTAL", x.creditor(0), NONE);
        promise = 18;
        due("owed without a TOTAL", x.owed(0), -1000000);
        // Great COUNTS by great weights go beyond an int.
        x = made("wheel merge 1;thing a weighs 9999;thing b weighs 9999;thing c weighs 9999 by 2;");
        for (int i = 0; i < 20; i++) {
            x.chance(60, 1);
        }
        due("owed of 1200", x.owed(0) + x.thing(0, 4), 480);
        due("owed of 1200", x.owed(2) + x.thing(2, 4), 240);
    }

    private static void teams() {
        promise = 20;
        ShareWheel x = made(TEAMS);
        due("team(0, 0)", x.team(0, 0), 3);
        due("team(1, 0)", x.team(1, 0), 4);
        due("team(0, 1)", x.team(0, 1), 4096);
        setTo(x, 0, 3);
        due("team(0, 1)", x.team(0, 1), 6144);
        due("the first of like ones", x.team(0, 3), 0);
        setTo(x, 1, 3.5);
        due("the greatest", x.team(0, 3), 1);
        x.chance(9, 1);
        due("team(0, 2)", x.team(0, 2), x.thing(0, 4) + x.thing(1, 4));
        due("team(1, 2)", x.team(1, 2), x.thing(2, 4));
        due("team(2, 0)", x.team(2, 0), NONE);
        due("team(-1, 0)", x.team(-1, 0), NONE);
        due("team(0, 4)", x.team(0, 4), NONE);
        promise = 21;
        x = made(TWO + "team xyz of b;team abcdef of b,a;");
        int[] letters = {24, 25, 26, 0, 0, 0};
        for (int k = 0; k < 6; k++) {
            due("called(0, " + k + ")", x.called(0, k), letters[k]);
            due("called(1, " + k + ")", x.called(1, k), k + 1);
        }
        due("called(0, 6)", x.called(0, 6), NONE);
        due("called(0, -1)", x.called(0, -1), NONE);
        due("called(2, 0)", x.called(2, 0), NONE);
        due("called(-1, 0)", x.called(-1, 0), NONE);
        promise = 22;
        x = made(TEAMS + "team z of c,a;");
        due("inside(2, 0, 0)", x.inside(2, 0, 0), 1);
        due("inside(2, 0, 1)", x.inside(2, 0, 1), 5);
        due("inside(2, 2, 0)", x.inside(2, 2, 0), 4);
        due("inside(2, 1, 0)", x.inside(2, 1, 0), NONE);
        due("inside(2, 3, 0)", x.inside(2, 3, 0), NONE);
        due("inside(3, 0, 0)", x.inside(3, 0, 0), NONE);
        due("inside(2, 0, 2)", x.inside(2, 0, 2), NONE);
        setTo(x, 2, 0);
        due("a team without weight", x.inside(1, 2, 0), NONE);
    }

    private static void picksInTeams() {
        promise = 23;
        // In z: a has 0, c has 1 to 4; three bits; 5 and on again.
        ShareWheel x = made(THREE + "team z of c,a;team y of b;");
        feedBytes(x, 0x1F);
        due("000", x.triesIn(0, 0), 0);
        feedBytes(x, 0xB0);
        due("101 100", x.triesIn(0, 0), 2);
        feedBytes(x, 0xB0);
        due("101 100", x.triesIn(0, 1), 6);
        feedBytes(x, 0xFF);
        due("111 111 11", x.triesIn(0, 0), OPEN);
        feedBytes(x, 0xFF);
        due("111 111 11", x.triesIn(0, 1), 8);
        due("the tape goes", x.end(1), false);
        due("no bits", x.triesIn(0, 1), 0);
        due("no bits, three parts", x.triesIn(1, 0), OPEN);
        feedBytes(x, new int[100]);
        due("100 bytes", x.triesIn(0, 0), 0);
        feedBytes(x, new int[101]);
        due("101 bytes", x.triesIn(0, 0), NONE);
        feedBytes(x, 0);
        due("triesIn(2, 0)", x.triesIn(2, 0), NONE);
        due("the tape goes", x.end(1), false);
        feedBytes(x, 0);
        due("triesIn(0, 2)", x.triesIn(0, 2), NONE);
        due("the tape goes", x.end(1), false);
        promise = 24;
        due("rowsIn(0, 3, 0)", x.rowsIn(0, 3, 0), 1);
        due("rowsIn(0, 3, 2)", x.rowsIn(0, 3, 2), 4);
        due("rowsIn(0, 3, 1)", x.rowsIn(0, 3, 1), 0);
        due("rowsIn(0, 3, NONE)", x.rowsIn(0, 3, NONE), 3);
        due("rowsIn(0, 6, 2)", x.rowsIn(0, 6, 2), 32 + 12);
        due("rowsIn(0, 12, NONE)", x.rowsIn(0, 12, NONE), 81);
        due("rowsIn(0, 13, 0)", x.rowsIn(0, 13, 0), NONE);
        due("rowsIn(0, -1, 0)", x.rowsIn(0, -1, 0), NONE);
        due("rowsIn(0, 3, 3)", x.rowsIn(0, 3, 3), NONE);
        due("rowsIn(0, 3, -2)", x.rowsIn(0, 3, -2), NONE);
        due("rowsIn(2, 3, 0)", x.rowsIn(2, 3, 0), NONE);
        due("rowsIn(1, 0, 1)", x.rowsIn(1, 0, 1), 0);
        setTo(x, 1, 0);
        due("a team without weight", x.rowsIn(1, 3, 1), NONE);
        promise = 23;
        feedBytes(x, 0);
        due("a team without weight", x.triesIn(1, 0), NONE);
    }

    private static void quotas() {
        promise = 25;
        ShareWheel x = made(BANDS);
        // By rank: b 3, c 2, a 1, d 0 of 6.
        due("quorum(1, 2, 0)", x.quorum(1, 2, 0), 1);
        due("quorum(1, 2, 1)", x.quorum(1, 2, 1), 2);
        due("quorum(501, 1000, 0)", x.quorum(501, 1000, 0), 2);
        due("quorum(501, 1000, 1)", x.quorum(501, 1000, 1), 6);
        due("quorum(1, 1, 0)", x.quorum(1, 1, 0), 3);
        due("quorum(1, 1, 1)", x.quorum(1, 1, 1), 7);
        due("quorum(0, 9, 0)", x.quorum(0, 9, 0), 0);
        due("quorum(0, 9, 1)", x.quorum(0, 9, 1), 0);
        due("quorum(1000, 999, 0)", x.quorum(1000, 999, 0), NONE);
        due("quorum(-1, 2, 0)", x.quorum(-1, 2, 0), NONE);
        due("quorum(1, 0, 0)", x.quorum(1, 0, 0), NONE);
        due("quorum(1001, 1000, 0)", x.quorum(1001, 1000, 0), NONE);
        due("quorum(1, 1001, 0)", x.quorum(1, 1001, 0), NONE);
        due("quorum(1, 2, 2)", x.quorum(1, 2, 2), NONE);
        promise = 26;
        // Half is 3 of 6: b swings {}, {a}, {c}; a swings {c}; c swings {a}; each with d and without it.
        due("swings(1, 1, 2)", x.swings(1, 1, 2), 6);
        due("swings(0, 1, 2)", x.swings(0, 1, 2), 2);
        due("swings(2, 1, 2)", x.swings(2, 1, 2), 2);
        due("swings(3, 1, 2)", x.swings(3, 1, 2), 0);
        due("swings(1, 1, 1)", x.swings(1, 1, 1), 2);
        due("swings(1, 0, 1)", x.swings(1, 0, 1), 0);
        due("swings(1, 3, 2)", x.swings(1, 3, 2), 0);
        due("swings(4, 1, 2)", x.swings(4, 1, 2), NONE);
        due("swings(-1, 1, 2)", x.swings(-1, 1, 2), NONE);
        due("swings(0, 1, 0)", x.swings(0, 1, 0), NONE);
        due("swings(0, 1001, 2)", x.swings(0, 1001, 2), NONE);
        StringBuilder many = new StringBuilder("wheel merge 1;");
        for (char c = 'a'; c < 'q'; c++) {
            many.append("thing ").append(c).append(" weighs 9999;");
        }
        x = made(many.toString());
        // 8 of 16 must be there: a swings with 7 of the 15 others.
        due("swings of sixteen", x.swings(15, 1, 2), 6435);
        due("swings of sixteen", x.swings(0, 1, 2), 6435);
        x = made("wheel merge 1;thing a weighs 0;");
        due("swings without a TOTAL", x.swings(0, 1, 2), NONE);
        promise = 25;
        due("quorum without a TOTAL", x.quorum(0, 2, 0), NONE);
    }

    private static void triesByTable() {
        promise = 27;
        ShareWheel x = made(EVEN);
        setTo(x, 0, 2);
        setTo(x, 1, 5);
        due("no MERGING", x.has(8), 0);
        // 9 to draw from, 4 bits; a column 1 bit; of 8, 3 bits; a is refused by 2 of 4, 2 bits.
        due("0000 0 000 10", tryBits(x, 0, 0, 0x00, 0x80), 0);
        due("0000 0 000 10", tryBits(x, 0, 1, 0x00, 0x80), 10);
        due("0000 0 000 01 1000", tryBits(x, 0, 0, 0x00, 0x60), 1);
        due("0000 0 000 01 1000", tryBits(x, 0, 1, 0x00, 0x60), 14);
        due("1111 1000", tryBits(x, 0, 0, 0xF8), 1);
        due("1111 1000", tryBits(x, 0, 1, 0xF8), 8);
        due("0111 1 111", tryBits(x, 0, 0, 0x7F), 1);
        due("0111 1 111", tryBits(x, 0, 1, 0x7F), 8);
        due("0000 0 000", tryBits(x, 0, 0, 0x00), OPEN);
        due("0000 0 000", tryBits(x, 0, 1, 0x00), 8);
        // Without T all is in the tree.
        x = made("wheel merge 9;thing a weighs 0;thing b weighs 0;thing c weighs 0;");
        due("tries without a TOTAL", tryBits(x, 0, 0, 0), NONE);
        due("the tape goes", x.end(1), false);
        setTo(x, 2, 3);
        setTo(x, 1, 1);
        due("00", tryBits(x, 0, 0, 0x00), 1);
        due("01", tryBits(x, 0, 0, 0x40), 2);
        due("01", tryBits(x, 0, 1, 0x40), 2);
        // An ALIAS that has LESS is refused as well: a 1, b 7, b to 5 of 7.
        x = made("wheel merge 9;thing a weighs 1;thing b weighs 7;");
        setTo(x, 1, 5);
        // x of 8: 3 bits; column 0; of 8 not below 2; b draws of 7: below 2 refused.
        due("000 0 010 010", tryBits(x, 0, 0, 0x04, 0x80), 1);
        due("000 0 010 010", tryBits(x, 0, 1, 0x04, 0x80), 10);
        due("000 0 001", tryBits(x, 0, 0, 0x02), 0);
        due("000 0 010 001 000 0 001", tryBits(x, 0, 0, 0x04, 0x40, 0x80), 0);
        due("000 0 010 001 000 0 001", tryBits(x, 0, 1, 0x04, 0x40, 0x80), 17);
    }

    private static void triesByPartsAndBands() {
        promise = 27;
        ShareWheel x = made(BANDS);
        due("000", tryBits(x, 1, 0, 0x00), 0);
        due("011", tryBits(x, 1, 0, 0x60), 1);
        due("100", tryBits(x, 1, 0, 0x80), 2);
        due("110 101", tryBits(x, 1, 0, 0xD4), 2);
        due("110 101", tryBits(x, 1, 1, 0xD4), 6);
        due("110 111 10", tryBits(x, 1, 0, 0xDE), OPEN);
        due("110 111 10", tryBits(x, 1, 1, 0xDE), 8);
        due("000 0", tryBits(x, 2, 0, 0x00), 0);
        due("000 0", tryBits(x, 2, 1, 0x00), 4);
        due("000 1 0", tryBits(x, 2, 1, 0x10), 5);
        due("001 0 10", tryBits(x, 2, 0, 0x28), 1);
        due("001 0 11 1 01", tryBits(x, 2, 0, 0x2E, 0x80), 2);
        due("001 0 11 1 01", tryBits(x, 2, 1, 0x2E, 0x80), 9);
        due("001 1 10 0 00", tryBits(x, 2, 0, 0x38, 0x00), 1);
        due("100 bytes", tryBits(x, 1, 0, new int[100]), 0);
        due("101 bytes", tryBits(x, 1, 0, new int[101]), NONE);
        due("the tape goes", x.end(1), false);
        due("no bits", tryBits(x, 1, 0), OPEN);
        due("no bits", tryBits(x, 1, 1), 0);
        due("way 3", tryBits(x, 3, 0, 0), NONE);
        due("way -1", tryBits(x, -1, 0, 0), NONE);
        due("what 2", tryBits(x, 1, 2, 0), NONE);
        due("the tape goes", x.end(1), false);
        x = made("wheel merge 1;thing a weighs 7;");
        setTo(x, 0, 0);
        x.merged();
        setTo(x, 0, 7);
        due("a single one by its GRAIN needs no bits", tryBits(x, 1, 0), 0);
        due("a single one by its GRAIN needs no bits", tryBits(x, 1, 1), 0);
    }

    private static void bands() {
        promise = 28;
        ShareWheel x = made(BANDS);
        int[][] want = {{0, 1, 1}, {1, 2, 5}, {1, 2, 5}};
        for (int t = 0; t < 3; t++) {
            for (int what = 0; what < 3; what++) {
                due("band(" + t + ", " + what + ")", x.band(t, what), want[t][what]);
            }
        }
        due("band(3, 0)", x.band(3, 0), NONE);
        due("band(4, 0)", x.band(4, 0), NONE);
        due("band(-1, 0)", x.band(-1, 0), NONE);
        due("band(0, 3)", x.band(0, 3), NONE);
        setTo(x, 3, 1 / 1024.0);
        due("band(0, 0) by another GRAIN", x.band(0, 0), 10);
        due("band(3, 0)", x.band(3, 0), 0);
        setTo(x, 1, 9999);
        due("the highest band", x.band(1, 0), 23);
    }

    private static void deals() {
        promise = 29;
        ShareWheel x = made(BANDS);
        // 010 is b; 01 of a, c is c; a is alone with one part: no bits.
        due("deals(0)", deal(x, 0, 0x48), 1);
        due("deals(1)", deal(x, 1, 0x48), 2);
        due("deals(2)", deal(x, 2, 0x48), 0);
        due("deals(3)", deal(x, 3, 0x48), NONE);
        due("the tape goes", x.end(1), false);
        // 000 is a; 100 of b, c is c; b with three parts: two bits.
        due("deals(2)", deal(x, 2, 0x10), 1);
        due("deals(2)", deal(x, 2, 0x13), OPEN);
        due("deals(0) of no bits", deal(x, 0), OPEN);
        due("deals(9) of no bits", deal(x, 9), OPEN);
        due("deals(-1)", deal(x, -1, 0x48), NONE);
        due("deals(2147483647)", deal(x, 2147483647, 0x48), NONE);
        due("100 bytes", deal(x, 0, new int[100]), 0);
        due("101 bytes", deal(x, 0, new int[101]), NONE);
        due("the tape goes", x.end(1), false);
        due("without a TOTAL", deal(made("wheel merge 1;thing a weighs 0;"), 0, 0), NONE);
        // GRAIN stays: 2 and 4 are drawn as 1 and 2, then 4 alone as 2.
        x = made("wheel merge 1;thing a weighs 2;thing b weighs 4;");
        due("00 0", deal(x, 1, 0x00), 1);
        due("00", deal(x, 0, 0x00), 0);
        due("0 is taken for two parts", x.pairs(2, 0, 1), 0);
        due("0 is taken for two parts", x.pairs(3, 0, 1), 2);
    }

    private static void pairs() {
        promise = 30;
        ShareWheel x = made(TWO);
        due("pairs(4, 0, 1)", x.pairs(4, 0, 1), 3);
        due("pairs(4, 1, 0)", x.pairs(4, 1, 0), 12);
        due("pairs(2, 1, 0)", x.pairs(2, 1, 0), 3);
        due("pairs(2, 0, 1)", x.pairs(2, 0, 1), 0);
        due("pairs(0, 0, 1)", x.pairs(0, 0, 1), 0);
        due("pairs(12, 1, 0)", x.pairs(12, 1, 0), 3072);
        due("pairs(4, 0, 0)", x.pairs(4, 0, 0), 0);
        due("pairs(13, 0, 1)", x.pairs(13, 0, 1), NONE);
        due("pairs(-1, 0, 1)", x.pairs(-1, 0, 1), NONE);
        due("pairs(4, 2, 1)", x.pairs(4, 2, 1), NONE);
        due("pairs(4, 0, 2)", x.pairs(4, 0, 2), NONE);
        due("pairs(4, 0, -1)", x.pairs(4, 0, -1), NONE);
        due("without a TOTAL", made("wheel merge 1;thing a weighs 0;").pairs(4, 0, 0), NONE);
        x = made(BANDS);
        due("c is not dealt ahead", x.pairs(5, 1, 2), 3 * 2);
        due("c is not dealt ahead", x.pairs(5, 1, 0), 3);
        due("d is not dealt", x.pairs(5, 1, 3), 0);
    }

    private static void rows() {
        promise = 31;
        ShareWheel x = made(BANDS);
        due("rows(1, 3, 0)", x.rows(1, 3, 0), 1);
        due("rows(1, 3, 1)", x.rows(1, 3, 1), 3);
        due("rows(1, 3, NONE)", x.rows(1, 3, NONE), 2);
        due("rows(1, 5, NONE)", x.rows(1, 5, NONE), 8);
        due("rows(1, 6, NONE)", x.rows(1, 6, NONE), 4);
        due("rows(1, 6, 2)", x.rows(1, 6, 2), 16 + 4);
        due("rows(1, 6, 3)", x.rows(1, 6, 3), 0);
        due("rows(2, 4, 0)", x.rows(2, 4, 0), 1);
        due("rows(2, 6, 1)", x.rows(2, 6, 1), 5 * 3);
        due("rows(2, 6, 2)", x.rows(2, 6, 2), 5 * 2);
        due("rows(2, 0, NONE)", x.rows(2, 0, NONE), 1);
        due("rows(3, 3, 0)", x.rows(3, 3, 0), NONE);
        due("rows(-1, 3, 0)", x.rows(-1, 3, 0), NONE);
        due("rows(1, 13, 0)", x.rows(1, 13, 0), NONE);
        due("rows(1, -1, 0)", x.rows(1, -1, 0), NONE);
        due("rows(1, 3, 4)", x.rows(1, 3, 4), NONE);
        due("rows(1, 3, -2)", x.rows(1, 3, -2), NONE);
        due("without a TOTAL", made("wheel merge 1;thing a weighs 0;").rows(1, 3, NONE), NONE);
        x = made(EVEN);
        setTo(x, 0, 2);
        setTo(x, 1, 5);
        // By 10 bits: a by 8 times 8 times half of 4; b by the other column, and by 8.
        due("rows(0, 10, 0)", x.rows(0, 10, 0), 8 * 8 * 2);
        due("rows(0, 8, 1)", x.rows(0, 8, 1), 64 + 16 + 7);
        due("rows(0, 4, 1)", x.rows(0, 4, 1), 1);
        due("rows(0, 4, NONE)", x.rows(0, 4, NONE), 15);
        x = made("wheel merge 1;thing a weighs 5;");
        due("five parts alone", x.rows(1, 12, 0) + x.rows(1, 12, NONE), 4096);
        x = made("wheel merge 1;thing a weighs 1;");
        due("one part alone", x.rows(1, 0, 0), 1);
        due("one part alone", x.rows(0, 0, 0), 1);
        due("one part alone in its band", x.rows(2, 0, 0), 0);
        due("one part alone in its band", x.rows(2, 1, 0), 1);
        due("one part alone in its band", x.rows(2, 12, NONE), 1);
    }

    private static void fewestAndLongest() {
        promise = 32;
        ShareWheel x = made(BANDS);
        due("fewest(1, 2, 0)", x.fewest(1, 2, 0), 3);
        due("fewest(1, 2, 1)", x.fewest(1, 2, 1), 4);
        due("fewest(2, 0, 0)", x.fewest(2, 0, 0), 4);
        due("fewest(2, 0, 1)", x.fewest(2, 0, 1), 0);
        due("fewest(2, 2, 0)", x.fewest(2, 2, 0), 6);
        due("fewest(2, 2, 1)", x.fewest(2, 2, 1), 0b001100);
        due("fewest(1, 3, 0)", x.fewest(1, 3, 0), NONE);
        due("fewest(1, 3, 1)", x.fewest(1, 3, 1), NONE);
        due("fewest(1, 4, 0)", x.fewest(1, 4, 0), NONE);
        due("fewest(3, 0, 0)", x.fewest(3, 0, 0), NONE);
        due("fewest(1, 0, 2)", x.fewest(1, 0, 2), NONE);
        due("fewest(1, -1, 0)", x.fewest(1, -1, 0), NONE);
        due("no bits", made("wheel merge 1;thing a weighs 1;").fewest(1, 0, 0), 0);
        due("no bits", made("wheel merge 1;thing a weighs 1;").fewest(1, 0, 1), 0);
        due("thirteen bits", made("wheel merge 1;thing a weighs 4096;thing b weighs 1;").fewest(1, 0, 0), NONE);
        due("twelve bits", made("wheel merge 1;thing a weighs 4095;thing b weighs 1;").fewest(1, 1, 0), 12);
        due("twelve bits", made("wheel merge 1;thing a weighs 4095;thing b weighs 1;").fewest(1, 1, 1), 4095);
        due("without a TOTAL", made("wheel merge 1;thing a weighs 0;").fewest(1, 0, 0), NONE);
        x = made(EVEN);
        setTo(x, 0, 2);
        setTo(x, 1, 5);
        due("fewest(0, 1, 0)", x.fewest(0, 1, 0), 4);
        due("fewest(0, 1, 1)", x.fewest(0, 1, 1), 8);
        due("fewest(0, 0, 0)", x.fewest(0, 0, 0), 10);
        due("fewest(0, 0, 1)", x.fewest(0, 0, 1), 2);
        promise = 33;
        due("longest(0, 4, 0)", x.longest(0, 4, 0), 8);
        due("longest(0, 4, 1)", x.longest(0, 4, 1), 4);
        due("longest(0, 3, 0)", x.longest(0, 3, 0), NONE);
        due("longest(0, 3, 1)", x.longest(0, 3, 1), NONE);
        due("longest(0, 10, 0)", x.longest(0, 10, 0), 2);
        due("longest(0, 10, 1)", x.longest(0, 10, 1), 10);
        x = made(BANDS);
        due("longest(1, 7, 0)", x.longest(1, 7, 0), 0b1100000);
        due("longest(1, 7, 1)", x.longest(1, 7, 1), 6);
        due("longest(1, 12, 1)", x.longest(1, 12, 1), 12);
        due("longest(1, 12, 0)", x.longest(1, 12, 0), 0b110110110000);
        due("longest(1, 13, 0)", x.longest(1, 13, 0), NONE);
        due("longest(1, -1, 0)", x.longest(1, -1, 0), NONE);
        due("longest(3, 3, 0)", x.longest(3, 3, 0), NONE);
        due("longest(1, 3, 2)", x.longest(1, 3, 2), NONE);
        due("no bits", made("wheel merge 1;thing a weighs 1;").longest(1, 5, 1), 0);
        due("no bits", made("wheel merge 1;thing a weighs 1;").longest(1, 5, 0), 0);
        due("without a TOTAL", made("wheel merge 1;thing a weighs 0;").longest(1, 3, 0), NONE);
    }

    private static void seenAndFits() {
        promise = 34;
        ShareWheel x = made("wheel merge 16;thing a weighs 1;thing b weighs 1;");
        due("no tape", x.see(1), NONE);
        feedBytes(x, 1);
        due("half a row", x.see(1), NONE);
        due("the tape goes", x.end(1), false);
        feedBytes(x, 1, 2);
        due("no such thing in a row", x.see(1), NONE);
        feedBytes(x, 1, 254);
        due("no such thing in a row", x.see(1), NONE);
        feedBytes(x, 1, 1);
        due("see(2)", x.see(2), NONE);
        feedBytes(x, 1, 1);
        due("see(-1)", x.see(-1), NONE);
        feedBytes(x, new int[42]);
        due("21 rows", x.see(1), NONE);
        promise = 49;
        due("status(5)", x.status(5), 7);
        promise = 35;
        due("nothing is SEEN", x.fits(NONE), NONE);
        promise = 36;
        due("nothing is SEEN", x.tells(0), NONE);
        promise = 34;
        feedBytes(x, new int[40]);
        due("20 rows", x.see(1), 20);
        due("has(12)", x.has(12), 20);
        promise = 35;
        due("all come to a by 0", x.fits(NONE), 32);
        promise = 34;
        feedBytes(x, 0x80, 1);
        due("anew", x.see(1), 1);
        due("has(12)", x.has(12), 1);
        promise = 35;
        due("fits(NONE)", x.fits(NONE), 31);
        due("fits(0)", x.fits(0), 1);
        due("fits(30)", x.fits(30), 31);
        due("fits(31)", x.fits(31), NONE);
        due("fits(-2)", x.fits(-2), NONE);
        feedBytes(x, 0x80, 1, 0xC0, 0);
        x.see(1);
        int[] fits = {2, 4, 5, 8, 9, 10, 11};
        due("fits(NONE)", x.fits(NONE), fits.length);
        for (int k = 0; k < fits.length; k++) {
            due("fits(" + k + ")", x.fits(k), fits[k]);
        }
        feedBytes(x, 0xC0, 255);
        x.see(1);
        due("OPEN by 16 to 23", x.fits(NONE), 8);
        due("OPEN by 16 to 23", x.fits(0), 16);
        // A refused see() leaves what was SEEN.
        feedBytes(x, 0xC0, 7);
        x.see(1);
        due("fits(0)", x.fits(0), 16);
        // Others as they are now: with two of a the same totals come by one less of b.
        setTo(x, 0, 2);
        due("fits(0) with another weight beside it", x.fits(0), 15);
        // The unknown one's own NEW is of no matter, but by GRAIN its OLD is.
        setTo(x, 1, 7);
        due("fits(0)", x.fits(0), 15);
        x = made("wheel merge 16;thing a weighs 1;thing b weighs 1 by 1024;");
        feedBytes(x, 0x80, 255);
        x.see(1);
        due("all is OPEN by a small GRAIN", x.fits(NONE), 32);
        x = made("wheel merge 16;thing a weighs 0;thing b weighs 0;");
        feedBytes(x, 0x80, 255);
        x.see(1);
        due("without a TOTAL 0 does not fit", x.fits(0), NONE);
        feedBytes(x, 0x80, 1);
        x.see(1);
        due("fits(NONE)", x.fits(NONE), 31);
        due("fits(0)", x.fits(0), 1);
    }

    private static void telling() {
        promise = 36;
        ShareWheel x = made("wheel merge 16;thing a weighs 1;thing b weighs 1;");
        feedBytes(x, 0xC0, 0, 0x20, 1, 0x10, 0);
        due("see(1)", x.see(1), 3);
        due("fits(NONE)", x.fits(NONE), 2);
        due("fits(0)", x.fits(0), 4);
        due("fits(1)", x.fits(1), 5);
        due("tells(0)", x.tells(0), 0xA0);
        due("tells(1)", x.tells(1), 1);
        due("tells(2)", x.tells(2), NONE);
        due("tells(-1)", x.tells(-1), NONE);
        feedBytes(x, 0xC0, 0, 0x20, 1, 0x10, 0, 0xA0, 1);
        x.see(1);
        due("a single one", x.tells(0), 0);
        due("a single one", x.tells(1), 1);
        feedBytes(x, 0, 1);
        x.see(1);
        due("without FITS", x.fits(NONE), 0);
        due("without FITS", x.tells(0), NONE);
        // 254 and the unknown one ahead of it: eight bits; by 0 it is a, if a has one; by 1, if it has two.
        x = made("wheel merge 16;thing a weighs 1;thing b weighs 254;");
        feedBytes(x, 1, 1);
        x.see(0);
        due("0 or 1 fits", x.fits(NONE), 2);
        due("tells(0)", x.tells(0), 0);
        due("tells(1)", x.tells(1), 1);
        feedBytes(x, 0, 0, 2, 1);
        x.see(0);
        due("1 or 2 fits", x.fits(NONE), 2);
        due("tells(0)", x.tells(0), 1);
        due("tells(1)", x.tells(1), 1);
        feedBytes(x, 2, 1);
        x.see(0);
        due("0, 1 or 2 fits", x.fits(NONE), 3);
        due("tells(0)", x.tells(0), 0);
        due("tells(1)", x.tells(1), 2);
    }

    private static void setRefused(ShareWheel x, int thing, long bits, int reason, int cause) {
        String call = "set(" + thing + ", " + Double.longBitsToDouble(bits) + ")";
        int refused = x.status(2);
        due(call, x.set(thing, (int) (bits >> 32), (int) bits), NONE);
        promise = 38;
        due("why(0) of " + call, x.why(0), reason);
        due("why(1) of " + call, x.why(1), cause);
        promise = 37;
        due("status(2) of " + call, x.status(2), refused + 1);
    }

    private static void setRefused(ShareWheel x, double weight, int reason, int cause) {
        setRefused(x, 0, Double.doubleToRawLongBits(weight), reason, cause);
    }

    private static void setAndWhy() {
        promise = 37;
        ShareWheel x = made(THREE);
        setRefused(x, 3, 0x7FF8000000000000L, 1, 0);
        setRefused(x, -1, 0L, 1, 0);
        setRefused(x, 0, 0x7FF8000000000000L, 2, 0);
        setRefused(x, 0, 0xFFF8000000000000L, 2, 0);
        setRefused(x, 0, 0x7FF0000000000001L, 2, 0);
        setRefused(x, 0, 0xFFF0000100000000L, 2, 0);
        setRefused(x, Double.POSITIVE_INFINITY, 3, 0);
        setRefused(x, Double.NEGATIVE_INFINITY, 3, 0);
        setRefused(x, -1, 4, 0);
        setRefused(x, -Double.MIN_VALUE, 4, 0);
        setRefused(x, -1e300, 4, 0);
        setRefused(x, Math.nextUp(9999.0), 5, 0);
        setRefused(x, 9999 + 1 / 1024.0, 5, 0);
        setRefused(x, Math.nextDown(2097152.0), 5, 0);
        setRefused(x, 2097152, 5, 1);
        setRefused(x, 9007199254740992.0, 5, 1);
        setRefused(x, Double.MAX_VALUE, 5, 1);
        setRefused(x, Math.nextDown(9999.0), 6, 0);
        setRefused(x, 1.5 / 1024, 6, 0);
        setRefused(x, Math.nextUp(1 / 1024.0), 6, 0);
        setRefused(x, Math.nextDown(1 / 1024.0), 6, 2);
        setRefused(x, 1 / 2048.0, 6, 2);
        setRefused(x, 1e-30, 6, 2);
        setRefused(x, Double.MIN_VALUE, 6, 2);
        setRefused(x, Double.MIN_NORMAL, 6, 2);
        setRefused(x, 1, 7, 0);
        due("nothing changed", x.has(13), 0);
        due("-0.0", setTo(x, 0, -0.0), 0);
        due("why(0) stays", x.why(0), 7);
        setRefused(x, 0.0, 7, 0);
        due("a 1024th", setTo(x, 0, 1 / 1024.0), 1);
        due("9999", setTo(x, 0, 9999), 10238976);
        due("thing(0, 1)", x.thing(0, 1), 10238976);
        due("1234.5", setTo(x, 0, 1234.5), 1264128);
        due("has(13)", x.has(13), 4);
        promise = 38;
        due("why(2)", x.why(2), NONE);
        due("why(-1)", x.why(-1), NONE);
        // why() is of the latest that was refused, over wheels, too.
        setRefused(x, 1 / 2048.0, 6, 2);
        tell(x, TWO);
        due("why(0)", x.why(0), 6);
        due("why(1)", x.why(1), 2);
    }

    private static void mergeAndMerged() {
        promise = 39;
        ShareWheel x = made(THREE);
        due("merge(2)", x.merge(2), false);
        due("merge(-1)", x.merge(-1), false);
        due("merge(17)", x.merge(17), false);
        due("status(3)", x.status(3), 3);
        due("merge(16)", x.merge(16), true);
        due("has(1)", x.has(1), 16);
        due("has(13)", x.has(13), 1);
        setTo(x, 0, 2);
        setTo(x, 1, 4);
        due("no MERGING", x.has(8), 0);
        due("merge(2)", x.merge(2), true);
        due("no MERGING", x.has(8), 0);
        due("merge(1)", x.merge(1), true);
        due("MERGING", x.has(8), 1);
        due("OLD", x.thing(0, 0), 2048);
        due("has(7)", x.has(7), 0);
        due("merge(0)", x.merge(0), true);
        due("no MERGING without change", x.has(8), 1);
        setTo(x, 0, 3);
        due("MERGING by each change", x.has(8), 2);
        due("OLD", x.thing(0, 0), 3072);
        promise = 40;
        due("merged() of none", x.merged(), false);
        due("status(3)", x.status(3), 4);
        x = made(EVEN);
        setTo(x, 0, 2);
        due("4 Q is T: no MERGING", x.has(8), 0);
        due("merged()", x.merged(), true);
        due("has(8)", x.has(8), 1);
        due("thing(0, 0)", x.thing(0, 0), 2048);
        due("has(3)", x.has(3), 6144);
        due("has(13)", x.has(13), 2);
        due("merged() again", x.merged(), false);
        setTo(x, 1, 4 - 1.5 - 1 / 1024.0);
        due("4 Q is above T: MERGING", x.has(8), 2);
        due("one ACT with its MERGING", x.has(13), 3);
        x = new ShareWheel();
        due("without a wheel", x.merged(), false);
        promise = 39;
        due("without a wheel", x.merge(3), false);
        due("status(3)", x.status(3), 2);
    }

    private static void storeAndPick() {
        promise = 41;
        ShareWheel x = made(TWO);
        due("no tape", x.store(), NONE);
        due("status(3)", x.status(3), 1);
        due("store()", storeBytes(x, 0x1B), 8);
        due("the tape goes", x.end(1), false);
        due("store()", storeBytes(x, 0x40, 0x80), 24);
        due("has(13)", x.has(13), 2);
        promise = 42;
        // 00 01 10 11 | 01 ...
        due("00", x.pick(1), 0);
        due("01", x.pick(1), 1);
        due("10", x.pick(1), 1);
        due("has(9)", x.has(9), 18);
        // x of 4: 11; column 0; of 4: 10 is not below 2: b.
        due("11 0 10", x.pick(0), 1);
        due("has(9)", x.has(9), 13);
        due("has(11)", x.has(11), 11);
        due("COUNTS", x.thing(0, 4) * 10 + x.thing(1, 4), 13);
        // 00: band 0; 0: below 1.
        due("00 0", x.pick(2), 0);
        due("has(13)", x.has(13), 7);
        promise = 41;
        due("behind the ones left", storeBytes(x, 0xFF), 18);
        promise = 42;
        due("00", x.pick(1), 0);
        due("10", x.pick(1), 1);
        due("00", x.pick(1), 0);
        due("00", x.pick(1), 0);
        due("00 by the table of 5", x.pick(0), 1);
        due("has(9)", x.has(9), 5);
        due("pick(3)", x.pick(3), NONE);
        due("pick(-1)", x.pick(-1), NONE);
        due("status(2)", x.status(2), 2);
        due("11 1 11", x.pick(0), 1);
        int acts = x.has(13);
        due("no bits", x.pick(1), OPEN);
        due("OPEN is no ACT", x.has(13), acts);
        due("OPEN is not refused", x.status(2), 2);
        storeBytes(x, 0xFF);
        due("11 1 11", x.pick(0), 1);
        due("11 1", x.pick(0), OPEN);
        due("OPEN leaves all", x.has(9), 3);
        due("OPEN takes nothing", x.has(11), 37);
        due("11", x.pick(1), 1);
        x = made("wheel merge 1;thing a weighs 0;");
        due("without a TOTAL", x.pick(1), NONE);
        due("status(2)", x.status(2), 1);
        x = made("wheel merge 1;thing a weighs 1;");
        due("no bits are needed", x.pick(1), 0);
        due("an ACT", x.has(13), 1);
        x = new ShareWheel();
        promise = 41;
        due("without a wheel", storeBytes(x, 1), NONE);
        due("the tape goes", x.end(1), false);
    }

    private static void storeIsBounded() {
        promise = 41;
        ShareWheel x = made(TWO);
        int[] half = new int[200];
        java.util.Arrays.fill(half, 0xAA);
        due("store()", storeBytes(x, half), 1600);
        due("store()", storeBytes(x, half), 3200);
        due("one more", storeBytes(x, 1), NONE);
        due("pick", x.pick(1), 1);
        due("one more with 3198", storeBytes(x, 1), NONE);
        x.pick(1);
        x.pick(1);
        x.pick(1);
        due("one more with 3192", storeBytes(x, 0x10), 3200);
        for (int i = 0; i < 5; i++) {
            due("10", x.pick(1), 1);
        }
        due("with 3190", storeBytes(x, 0x33), 3198);
        due("with 3198", storeBytes(x, 0x33), NONE);
        int left = x.has(9);
        int counted = 0;
        for (int i = 0; i < 60; i++) {
            counted += x.pick(0);
        }
        due("60 PICKS of 5 bits", x.has(9), left - 300);
        due("10101, 01010 by turns: b all times", counted, 60);
        due("one more than there is room for", storeBytes(x, new int[39]), NONE);
        due("as many as there is room for", storeBytes(x, new int[37]), left - 300 + 296);
    }

    /** Four things by 2 to the 24 parts: three bytes of 0 are a, of 255 d, 128 and 0 are b. */
    private static void storeKeepsItsOrder() {
        promise = 41;
        ShareWheel x = made("wheel merge 4;thing a weighs 8192;thing b weighs 8191;"
                + "thing c weighs 1023 by 1024;thing d weighs 1 by 1024;");
        int[] first = new int[399];
        for (int i = 0; i < first.length; i++) {
            first[i] = i % 12 < 3 ? 0 : i % 12 < 6 ? 255 : i % 3 == 0 ? 128 : 0;
        }
        int[] want = {0, 3, 1, 1};
        due("store()", storeBytes(x, first), 3192);
        for (int i = 0; i < 100; i++) {
            due("pick " + i, x.pick(1), want[i % 4]);
        }
        due("store()", storeBytes(x, java.util.Arrays.copyOf(first, 300)), 792 + 2400);
        promise = 44;
        due("undo()", x.undo(), true);
        due("has(9)", x.has(9), 792);
        promise = 41;
        due("store()", storeBytes(x, java.util.Arrays.copyOf(first, 300)), 792 + 2400);
        for (int i = 0; i < 33; i++) {
            due("pick " + i, x.pick(1), want[i % 4]);
        }
        for (int i = 0; i < 100; i++) {
            due("pick " + i, x.pick(1), want[i % 4]);
        }
        due("no bits", x.pick(1), OPEN);
        due("has(9)", x.has(9), 0);
        due("has(11)", x.has(11), 3192 + 2400);
        // 3200 bits of which the first seven went leave no room for eight more.
        x = made("wheel merge 1;thing a weighs 1;thing b weighs 1;");
        storeBytes(x, new int[400]);
        for (int i = 0; i < 7; i++) {
            x.pick(1);
        }
        due("with 3193", storeBytes(x, 255), NONE);
        x.pick(1);
        due("with 3192", storeBytes(x, 255), 3200);
        // Bits across the last words: one bit went, 3199 are read by 24.
        x = made("wheel merge 16;thing a weighs 8192;thing b weighs 8191;"
                + "thing c weighs 1023 by 1024;thing d weighs 1 by 1024;");
        int[] full = new int[400];
        java.util.Arrays.fill(full, 255);
        storeBytes(x, full);
        for (int i = 0; i < 133; i++) {
            due("pick " + i, x.pick(1), 3);
        }
        due("has(9)", x.has(9), 8);
        due("with the store's end", storeBytes(x, 255, 254), 24);
        due("111111111111111111111110", x.pick(1), 2);
    }

    private static void leastWeights() {
        ShareWheel x = made("wheel merge 1;thing a weighs 1 by 1024;team t of a;");
        promise = 13;
        due("share(0, 0)", x.share(0, 0), 1);
        due("share(0, 1)", x.share(0, 1), 1);
        promise = 18;
        due("owed(0)", x.owed(0), 0);
        promise = 19;
        due("creditor(0)", x.creditor(0), 0);
        promise = 22;
        due("inside(0, 0, 1)", x.inside(0, 0, 1), 1);
        promise = 23;
        due("triesIn(0, 0)", x.triesIn(0, 0), 0);
        promise = 25;
        due("quorum(1, 1, 0)", x.quorum(1, 1, 0), 1);
        promise = 26;
        due("swings(0, 1, 1)", x.swings(0, 1, 1), 1);
        promise = 27;
        due("tries(0, 0)", x.tries(0, 0), 0);
        promise = 29;
        due("deals(0)", x.deals(0), 0);
        due("deals(1)", x.deals(1), NONE);
        promise = 30;
        due("pairs(3, 0, 0)", x.pairs(3, 0, 0), 0);
        promise = 31;
        due("rows(1, 3, 0)", x.rows(1, 3, 0), 8);
        promise = 32;
        due("fewest(2, 0, 0)", x.fewest(2, 0, 0), 1);
        promise = 33;
        due("longest(2, 3, 1)", x.longest(2, 3, 1), 3);
        due("longest(2, 3, 0)", x.longest(2, 3, 0), 6);
        promise = 42;
        due("pick(0)", x.pick(0), 0);
        promise = 43;
        due("chance(1, 1)", x.chance(1, 1), 0);
        promise = 26;
        x = made("wheel merge 1;thing a weighs 1 by 1024;thing b weighs 1 by 1024;");
        due("swings(0, 1, 2)", x.swings(0, 1, 2), 1);
        due("swings(1, 1, 1)", x.swings(1, 1, 1), 1);
        promise = 17;
        due("merges(0, 0)", x.merges(0, 0), 1);
        due("merges(0, 1)", x.merges(0, 1), 0);
    }

    private static void dealOfSixteen() {
        promise = 29;
        StringBuilder many = new StringBuilder("wheel merge 1;");
        for (char c = 'a'; c < 'q'; c++) {
            many.append("thing ").append(c).append(" weighs 1;");
        }
        ShareWheel x = made(many.toString());
        for (int k = 0; k < 16; k++) {
            due("deals(" + k + ") of 0", deal(x, k, new int[8]), k);
        }
        due("deals(16) of 0", deal(x, 16, new int[8]), NONE);
        promise = 31;
        due("rows(1, 12, 15)", x.rows(1, 12, 15), 256);
        due("rows(0, 12, 15)", x.rows(0, 12, 15), 256);
        due("rows(2, 12, 15) of nine bits", x.rows(2, 9, 15), 16);
        promise = 46;
        due("image()", x.image(), 130);
        promise = 47;
        due("octet(127)", x.octet(127), 4);
        due("octet(130)", x.octet(130), NONE);
    }

    private static void chance() {
        promise = 43;
        ShareWheel x = made(TWO);
        // The seed 1 gives 00 11 11 01 00.
        due("chance(5, 1)", x.chance(5, 1), 0);
        due("COUNTS", x.thing(0, 4) * 10 + x.thing(1, 4), 23);
        due("has(11)", x.has(11), 10);
        due("one ACT", x.has(13), 1);
        long seed = 1;
        for (int i = 0; i < 10; i++) {
            seed = (1103515245L * seed + 12345) % (1L << 31);
        }
        due("has(14)", x.has(14), seed);
        x.seed(1);
        // 00 1 11: column 1; b.
        due("chance(1, 0)", x.chance(1, 0), 1);
        due("has(11)", x.has(11), 15);
        x.seed(1);
        // 00: band 0; 1: refused; 1: refused; 1; 1; 0: a.
        due("chance(1, 2)", x.chance(1, 2), 0);
        due("has(11)", x.has(11), 22);
        due("chance(60, 1)", x.chance(60, 1) >= 0, true);
        due("has(10)", x.has(10), 67);
        due("chance(0, 1)", x.chance(0, 1), NONE);
        due("chance(61, 1)", x.chance(61, 1), NONE);
        due("chance(1, 3)", x.chance(1, 3), NONE);
        due("chance(1, -1)", x.chance(1, -1), NONE);
        due("status(2)", x.status(2), 4);
        due("has(10)", x.has(10), 67);
        x = made("wheel merge 1;thing a weighs 0;");
        due("without a TOTAL", x.chance(1, 1), NONE);
        due("has(14)", x.has(14), 1);
    }

    private static void undo() {
        promise = 44;
        ShareWheel x = made(THREE);
        due("undo() of nothing", x.undo(), false);
        due("status(4)", x.status(4), 1);
        setTo(x, 2, 1);
        due("MERGING", x.has(8), 1);
        due("undo()", x.undo(), true);
        due("has(8)", x.has(8), 0);
        due("NEW", x.thing(2, 1), 4096);
        due("OLD", x.thing(2, 0), 4096);
        due("column(0, 0)", x.column(0, 0), 3);
        due("TOTAL", x.has(2), 8192);
        x.merge(9);
        x.undo();
        due("has(1)", x.has(1), 2);
        setTo(x, 0, 2);
        x.merged();
        x.undo();
        due("OLD", x.thing(0, 0), 1024);
        due("NEW", x.thing(0, 1), 2048);
        x.undo();
        storeBytes(x, 0x55);
        due("010", x.pick(1), 1);
        due("has(9)", x.has(9), 5);
        storeBytes(x, 0xFF);
        x.undo();
        due("has(9)", x.has(9), 5);
        x.undo();
        due("has(9)", x.has(9), 8);
        due("has(11)", x.has(11), 0);
        due("has(10)", x.has(10), 0);
        due("010", x.pick(1), 1);
        x.chance(4, 1);
        int seed = x.has(14);
        x.undo();
        due("has(10)", x.has(10), 1);
        due("has(11)", x.has(11), 3);
        due("the seed stays", x.has(14), seed);
        x.undo();
        x.undo();
        due("has(9)", x.has(9), 0);
        due("has(13)", x.has(13), 0);
        feedBytes(x, 0x80, 1);
        x.see(1);
        setTo(x, 0, -1);
        setTo(x, 0, 3);
        x.undo();
        due("what is SEEN stays", x.has(12), 1);
        due("why() stays", x.why(0), 4);
        for (int i = 1; i <= 25; i++) {
            setTo(x, 0, 100 + i);
            due("has(13)", x.has(13), Math.min(i, 20));
        }
        for (int i = 24; i >= 5; i--) {
            due("undo()", x.undo(), true);
            due("NEW", x.thing(0, 1), (100 + i) * 1024);
            due("has(13)", x.has(13), i - 5);
        }
        due("the 21st", x.undo(), false);
        due("status(4)", x.status(4), 2);
        // Bits that went come back with what stood behind them.
        x = made("wheel merge 1;thing a weighs 1;thing b weighs 1;");
        int[] full = new int[400];
        java.util.Arrays.fill(full, 0x0F);
        storeBytes(x, full);
        for (int i = 0; i < 8; i++) {
            due("00001111", x.pick(1), i < 4 ? 0 : 1);
        }
        due("store()", storeBytes(x, 0xF0), 3200);
        for (int i = 0; i < 9; i++) {
            x.undo();
        }
        due("has(9)", x.has(9), 3200);
        for (int i = 0; i < 16; i++) {
            due("00001111", x.pick(1), i % 8 < 4 ? 0 : 1);
        }
    }

    private static void seeds() {
        promise = 45;
        ShareWheel x = made(TWO);
        due("seed(-1)", x.seed(-1), false);
        due("has(14)", x.has(14), 1);
        due("status(5)", x.status(5), 1);
        due("seed(0)", x.seed(0), true);
        due("has(14)", x.has(14), 0);
        due("no ACT", x.has(13), 0);
        due("seed(2147483647)", x.seed(2147483647), true);
        x.chance(1, 1);
        long seed = 2147483647;
        for (int i = 0; i < 2; i++) {
            seed = (1103515245L * seed + 12345) % (1L << 31);
        }
        due("has(14)", x.has(14), seed);
        x.undo();
        due("has(14)", x.has(14), seed);
    }

    private static int[] imageOf(int limit, int... weights) {
        int[] bytes = new int[2 + 4 * weights.length];
        bytes[0] = limit;
        for (int i = 0; i < weights.length; i++) {
            for (int k = 0; k < 4; k++) {
                bytes[1 + 4 * i + k] = weights[i] >>> (24 - 8 * k) & 255;
            }
        }
        int check = 179;
        for (int i = 0; i < bytes.length - 1; i++) {
            check = (3 * check + bytes[i]) % 251;
        }
        bytes[bytes.length - 1] = check;
        return bytes;
    }

    private static void images() {
        promise = 46;
        ShareWheel x = new ShareWheel();
        due("image() without a wheel", x.image(), 2);
        promise = 47;
        due("octet(0)", x.octet(0), 0);
        due("octet(1)", x.octet(1), 35);
        due("octet(2)", x.octet(2), NONE);
        due("octet(-1)", x.octet(-1), NONE);
        tell(x, TWO);
        due("of the latest image()", x.octet(1), 35);
        setTo(x, 1, 9999);
        promise = 46;
        due("image()", x.image(), 18);
        int[] want = imageOf(2, 1024, 1024, 3072, 10238976);
        promise = 47;
        for (int k = 0; k < 18; k++) {
            due("octet(" + k + ")", x.octet(k), want[k]);
        }
        due("octet(18)", x.octet(18), NONE);
        setTo(x, 1, 5);
        due("as it was written", x.octet(14), want[14]);
        due("image() is no ACT", x.has(13), 2);
    }

    private static boolean takeOn(ShareWheel x, int... bytes) {
        feedBytes(x, bytes);
        return x.on();
    }

    private static void imagesTakenOn() {
        promise = 48;
        ShareWheel x = new ShareWheel();
        due("without a wheel", takeOn(x, 0, 35), false);
        due("status(5)", x.status(5), 1);
        tell(x, TWO);
        storeBytes(x, 1, 2, 3);
        x.chance(5, 1);
        setTo(x, 0, 2);
        x.merged();
        feedBytes(x, 0x80, 1);
        x.see(1);
        int[] good = imageOf(1, 4096, 1, 10238976, 0);
        int[] bad = good.clone();
        bad[17] = (bad[17] + 1) % 251;
        due("a wrong check", takeOn(x, bad), false);
        due("the tape goes", x.end(1), false);
        due("a check of 251 more", takeOn(x, java.util.Arrays.copyOf(good, 17)), false);
        due("a byte more", takeOn(x, java.util.Arrays.copyOf(good, 19)), false);
        due("no bytes", takeOn(x), false);
        due("another number of things", takeOn(x, imageOf(1, 1, 1)), false);
        due("17 to merge", takeOn(x, imageOf(17, 1, 1, 1, 1)), false);
        due("too great a weight", takeOn(x, imageOf(1, 1, 1, 10238977, 1)), false);
        due("too great a weight", takeOn(x, imageOf(1, 1, 1, 1, 10238977)), false);
        due("a weight below 0", takeOn(x, imageOf(1, -1, 1, 1, 1)), false);
        due("the highest bit", takeOn(x, imageOf(1, 1, 1, 0x80000001, 1)), false);
        due("status(5)", x.status(5), 11);
        due("all stays", x.has(9), 24);
        due("all stays", x.has(2), 5120);
        due("on()", takeOn(x, good), true);
        due("the tape goes", x.end(1), false);
        int[] want = {2, 1, 1, 4096 + 10238976, 0, 4095 + 10238976, 1, 2, 1, 0, 0, 10, 1, 0};
        for (int what = 0; what < want.length; what++) {
            due("has(" + what + ")", x.has(what), want[what]);
        }
        due("OLD of a", x.thing(0, 0), 4096);
        due("NEW of a", x.thing(0, 1), 1);
        due("COUNT of a", x.thing(0, 4), 0);
        due("undo()", x.undo(), false);
        due("the names stay", x.letter(0, 0), 1);
        due("THE TABLE is of it", x.column(0, 0), 8192);
        due("merge(2) is a change by which there is MERGING", x.merge(2), true);
        due("has(8)", x.has(8), 2);
        due("16 to merge", takeOn(x, imageOf(16, 0, 0, 0, 0)), true);
        due("TOTAL", x.has(2), 0);
        x.image();
        due("octet(0)", x.octet(0), 16);
        x = made("wheel merge 5;");
        due("an image of no things", takeOn(x, imageOf(3)), true);
        due("has(1)", x.has(1), 3);
        // Nearly all is refused: it must end all the same, and does, or is OPEN.
        x = made(TWO);
        takeOn(x, imageOf(1, 10238976, 1, 10238976, 0));
        int seed = x.has(14);
        int picked = x.chance(1, 0);
        due("a PICK that hardly ever is", picked == 0 || picked == OPEN && x.has(14) == seed, true);
    }

    private static void statuses() {
        promise = 49;
        ShareWheel x = new ShareWheel();
        x.end(1);
        x.end(-1);
        x.wheel();
        x.set(0, 0, 0);
        x.pick(0);
        x.chance(1, 0);
        x.merge(1);
        x.merged();
        x.store();
        x.undo();
        x.seed(-5);
        x.see(0);
        x.on();
        int[] want = {2, 1, 3, 3, 1, 3};
        for (int what = 0; what < 6; what++) {
            due("status(" + what + ")", x.status(what), want[what]);
        }
        due("status(6)", x.status(6), NONE);
        due("status(-1)", x.status(-1), NONE);
        tell(x, TWO);
        due("a wheel leaves them", x.status(2), 3);
    }
}
