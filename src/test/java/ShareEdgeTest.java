/** Edges of SHARES, OWED, TEAMS and QUOTAS: promises 13 to 16, 18 to 20, 22, 25, 26. */
public final class ShareEdgeTest extends Desk {
    /** b 3, c 2, a 1, d 0 of 6, by rank. */
    private static final String FOUR = text(16, "1", "3", "2", "0");

    public static void main(String[] args) {
        shares();
        goes();
        would();
        wouldNone();
        needs();
        needsNone();
        needsAlone();
        owed();
        creditor();
        team();
        inside();
        quorum();
        quorumNone();
        swings();
        swingsNone();
        byNewAlone();
        sameAsTold();
        leastTotal();
        close("ShareEdgeTest");
    }

    private static void fraction(String of, int above, int below, int wantAbove, int wantBelow) {
        due(of + ", above", above, wantAbove);
        due(of + ", below", below, wantBelow);
    }

    private static void shares() {
        by("13: SHARE of a THING in lowest terms");
        ShareWheel x = told(FOUR);
        fraction("a", x.share(0, 0), x.share(0, 1), 1, 6);
        fraction("b", x.share(1, 0), x.share(1, 1), 1, 2);
        fraction("c", x.share(2, 0), x.share(2, 1), 1, 3);
        fraction("d, without weight", x.share(3, 0), x.share(3, 1), 0, 1);
        x = told(text(2, "0", "9999"));
        fraction("all", x.share(1, 0), x.share(1, 1), 1, 1);
        fraction("nothing", x.share(0, 0), x.share(0, 1), 0, 1);
        x = told(text(2, "9999", "9999", "9999 by 1024"));
        fraction("great ones", x.share(0, 0), x.share(0, 1), 1024, 2049);
        x = told(text(2, "9999", "1 by 1024"));
        fraction("a 1024th", x.share(1, 0), x.share(1, 1), 1, MOST + 1);
        fraction("the rest", x.share(0, 0), x.share(0, 1), MOST, MOST + 1);
        x = told(sixteen(2, "9999"));
        weigh(x, 0, MOST - 1);
        fraction("the greatest TOTAL", x.share(1, 0), x.share(1, 1), MOST, 16 * MOST - 1);
        by("13: NONE without a TOTAL, when there is none such, or for others");
        ShareWheel y = told(FOUR);
        due("share(4, 0)", y.share(4, 0), NONE);
        due("share(-1, 0)", y.share(-1, 0), NONE);
        due("share(0, 2)", y.share(0, 2), NONE);
        due("share(0, -1)", y.share(0, -1), NONE);
        dueFar("share(.., 0)", k -> y.share(k, 0), NONE);
        dueFar("share(0, ..)", k -> y.share(0, k), NONE);
        due("share(0, 0) without a TOTAL", told(text(2, "0")).share(0, 0), NONE);
        due("share(0, 1) without a TOTAL", told(text(2, "0")).share(0, 1), NONE);
        due("share(0, 0) without a wheel", new ShareWheel().share(0, 0), NONE);
        due("share(0, 1) of the least TOTAL", told(text(2, "1 by 1024")).share(0, 1), 1);
    }

    private static void goes() {
        by("14: GOES in lowest terms: (T + P) by TOTAL");
        ShareWheel x = told(text(16, "4", "4"));
        fraction("as told", x.goes(0), x.goes(1), 1, 1);
        weigh(x, 0, 2048);
        fraction("4 Q is T", x.goes(0), x.goes(1), 4, 3);
        weigh(x, 1, MOST);
        fraction("much MORE", x.goes(0), x.goes(1), 10003, 10001);
        x = told(text(16, "0", "0"));
        weigh(x, 1, 7);
        fraction("without T", x.goes(0), x.goes(1), 1, 1);
        by("14: NONE without a TOTAL, or for others");
        ShareWheel y = x;
        due("goes(2)", x.goes(2), NONE);
        due("goes(-1)", x.goes(-1), NONE);
        dueFar("goes", y::goes, NONE);
        due("goes(0) without a TOTAL", told(text(2, "0")).goes(0), NONE);
        due("goes(1) without a wheel", new ShareWheel().goes(1), NONE);
        due("on()", on(x, image(16, 6, 0, 6, 0)), true);
        due("goes(0) with T, without a TOTAL", x.goes(0), NONE);
    }

    private static void would() {
        by("15: SHARE of a THING, were the weight of one (0 .. 9999 times 1024) so many 1024ths");
        ShareWheel x = told(FOUR);
        fraction("a 0", x.would(0, 0, 1, 0), x.would(0, 0, 1, 1), 3, 5);
        fraction("a 0, of itself", x.would(0, 0, 0, 0), x.would(0, 0, 0, 1), 0, 1);
        fraction("a 9999", x.would(0, MOST, 0, 0), x.would(0, MOST, 0, 1), 9999, 10004);
        fraction("a 9999, of b", x.would(0, MOST, 1, 0), x.would(0, MOST, 1, 1), 3, 10004);
        fraction("a as it is", x.would(0, 1024, 0, 0), x.would(0, 1024, 0, 1), 1, 6);
        fraction("d 1 1024th", x.would(3, 1, 3, 0), x.would(3, 1, 3, 1), 1, 6145);
        due("nothing is changed by the question", x.has(2), 6144);
        due("no ACT", x.has(13), 0);
        x = told(sixteen(2, "9999"));
        weigh(x, 15, 0);
        fraction("the greatest TOTAL", x.would(15, MOST, 0, 0), x.would(15, MOST, 0, 1), 1, 16);
        weigh(x, 15, MOST);
        fraction("one less", x.would(15, MOST - 1, 0, 0), x.would(15, MOST - 1, 0, 1), MOST, 16 * MOST - 1);
    }

    private static void wouldNone() {
        by("15: NONE when there would be no TOTAL, the weight can't be, there is none such, or for others");
        ShareWheel x = told(FOUR);
        due("9999 times 1024 and 1", x.would(0, MOST + 1, 0, 0), NONE);
        due("-1", x.would(0, -1, 0, 0), NONE);
        due("no such one", x.would(4, 0, 0, 0), NONE);
        due("no such one", x.would(-1, 0, 0, 0), NONE);
        due("no such THING", x.would(0, 0, 4, 0), NONE);
        due("no such THING", x.would(0, 0, -1, 0), NONE);
        due("what 2", x.would(0, 0, 0, 2), NONE);
        due("what -1", x.would(0, 0, 0, -1), NONE);
        dueFar("would(.., 0, 0, 0)", k -> x.would(k, 0, 0, 0), NONE);
        dueFar("would(0, .., 0, 0)", k -> x.would(0, k, 0, 0), NONE);
        dueFar("would(0, 0, .., 0)", k -> x.would(0, 0, k, 0), NONE);
        dueFar("would(0, 0, 0, ..)", k -> x.would(0, 0, 0, k), NONE);
        ShareWheel y = told(text(2, "5", "0"));
        due("no TOTAL then", y.would(0, 0, 1, 0), NONE);
        due("no TOTAL then", y.would(0, 0, 0, 1), NONE);
        due("the least TOTAL then", y.would(0, 1, 0, 0), 1);
        ShareWheel z = told(text(2, "0", "0"));
        due("no TOTAL now, none then", z.would(0, 0, 0, 0), NONE);
        due("no TOTAL now, one then", z.would(0, 1, 1, 1), 1);
        due("without a wheel", new ShareWheel().would(0, 1, 0, 0), NONE);
    }

    /** The least one: a 1024th less is below the share, by would(). */
    private static void needed(ShareWheel x, int thing, int above, int below, int want) {
        String call = "needs(" + thing + ", " + above + ", " + below + ")";
        due(call, x.needs(thing, above, below), want);
        due(call + " reaches it", reaches(x, thing, want, above, below), true);
        if (want > 0) {
            due(call + " less 1 does not", reaches(x, thing, want - 1, above, below), false);
        }
    }

    private static boolean reaches(ShareWheel x, int thing, int weight, int above, int below) {
        long over = x.would(thing, weight, thing, 0);
        long under = x.would(thing, weight, thing, 1);
        return over >= 0 && over * below >= above * under;
    }

    private static void needs() {
        by("16: The least weight of a THING, others as they are, by which its SHARE is above by below at least");
        ShareWheel x = told(FOUR);
        needed(x, 0, 0, 1, 0);
        needed(x, 0, 0, 1000, 0);
        needed(x, 0, 1, 1000, 6);
        needed(x, 0, 1, 2, 5120);
        needed(x, 0, 1, 6, 1024);
        needed(x, 0, 500, 1000, 5120);
        needed(x, 0, 501, 1000, 5141);
        needed(x, 0, 999, 1000, 5114880);
        needed(x, 0, 998, 999, 5109760);
        needed(x, 3, 1, 3, 3072);
        needed(x, 3, 1, 7, 1024);
        needed(x, 3, 2, 7, 2458);
        by("16: 9999 times 1024 and more");
        x = told(text(16, "1", "9999"));
        needed(x, 0, 1, 2, MOST);
        due("needs(0, 501, 1000)", x.needs(0, 501, 1000), NONE);
        needed(x, 0, 499, 1000, 10198102);
        x = told(text(16, "1", "9999", "1 by 1024"));
        due("needs(0, 1, 2) of one more", x.needs(0, 1, 2), NONE);
        x = told(text(16, "1", "9999 by 1024"));
        needed(x, 0, 999, 1000, 9999 * 999);
        x = told(text(16, "1", "9999 by 512"));
        due("needs(0, 999, 1000) of too much", x.needs(0, 999, 1000), NONE);
        x = told(sixteen(2, "9999"));
        needed(x, 0, 1, 16, MOST);
        due("needs(0, 1, 15)", x.needs(0, 1, 15), NONE);
    }

    private static void needsNone() {
        by("16: (0 .. 1000, 1 .. 1000); NONE when it can't be, or there is none such");
        ShareWheel x = told(FOUR);
        due("needs(0, -1, 2)", x.needs(0, -1, 2), NONE);
        due("needs(0, 1001, 1000)", x.needs(0, 1001, 1000), NONE);
        due("needs(0, 1, 0)", x.needs(0, 1, 0), NONE);
        due("needs(0, 0, 0)", x.needs(0, 0, 0), NONE);
        due("needs(0, 0, 1001)", x.needs(0, 0, 1001), NONE);
        due("needs(0, 1, -1)", x.needs(0, 1, -1), NONE);
        due("needs(0, 1, 1)", x.needs(0, 1, 1), NONE);
        due("needs(0, 1000, 1000)", x.needs(0, 1000, 1000), NONE);
        due("needs(0, 3, 2)", x.needs(0, 3, 2), NONE);
        due("needs(0, 1000, 1)", x.needs(0, 1000, 1), NONE);
        due("needs(4, 0, 1)", x.needs(4, 0, 1), NONE);
        due("needs(-1, 0, 1)", x.needs(-1, 0, 1), NONE);
        dueFar("needs(.., 0, 1)", k -> x.needs(k, 0, 1), NONE);
        dueFar("needs(0, .., 1)", k -> x.needs(0, k, 1), NONE);
        dueFar("needs(0, 0, ..)", k -> x.needs(0, 0, k), NONE);
        due("without a wheel", new ShareWheel().needs(0, 0, 1), NONE);
    }

    private static void needsAlone() {
        by("16: without another weight: the least by which there is a SHARE");
        ShareWheel x = told(text(16, "9", "0"));
        due("needs(0, 1, 1)", x.needs(0, 1, 1), 1);
        due("needs(0, 1000, 1000)", x.needs(0, 1000, 1000), 1);
        due("needs(0, 1, 2)", x.needs(0, 1, 2), 1);
        due("needs(0, 0, 1)", x.needs(0, 0, 1), 1);
        due("needs(0, 2, 1)", x.needs(0, 2, 1), NONE);
        due("needs(1, 1, 1)", x.needs(1, 1, 1), NONE);
        due("needs(1, 0, 1)", x.needs(1, 0, 1), 0);
        x = told(text(16, "0", "0"));
        due("needs(0, 1, 1) with all weights 0", x.needs(0, 1, 1), 1);
    }

    private static void owed() {
        by("18: OWED: its SHARE of all COUNTS together, cut, less its COUNT (below 0, too)");
        ShareWheel x = told(text(16, "1", "1", "1"));
        due("ahead of any", x.owed(0), 0);
        // Three parts, two bits: 00 a, 01 b, 10 c.
        due("store()", store(x, bits("00 00 01 00 00 00 00 00")), 16);
        x.pick(1);
        due("a third of 1, cut, less 1", x.owed(0), -1);
        due("a third of 1, cut", x.owed(1), 0);
        x.pick(1);
        due("a third of 2, cut, less 2", x.owed(0), -2);
        due("a third of 2, cut", x.owed(2), 0);
        x.pick(1);
        due("a third of 3, less 2", x.owed(0), -1);
        due("a third of 3, less 1", x.owed(1), 0);
        due("a third of 3", x.owed(2), 1);
        weigh(x, 1, 0);
        due("by NEW: a half of 3, cut, less 2", x.owed(0), -1);
        due("without weight: less 1", x.owed(1), -1);
        due("a half of 3, cut", x.owed(2), 1);
        by("18: NOTHING without a TOTAL, or when there is none such");
        ShareWheel y = x;
        due("owed(3)", x.owed(3), NOTHING);
        due("owed(-1)", x.owed(-1), NOTHING);
        dueFar("owed", y::owed, NOTHING);
        due("owed(0) without a TOTAL", told(text(2, "0")).owed(0), NOTHING);
        due("owed(0) without a wheel", new ShareWheel().owed(0), NOTHING);
        weigh(x, 0, 0);
        weigh(x, 2, 0);
        due("owed(0) with COUNTS, without a TOTAL", x.owed(0), NOTHING);
    }

    private static void creditor() {
        by("19: The THING to which most is OWED, of like ones the first (what 0), the one to which least is (1)");
        ShareWheel x = told(text(16, "1", "1", "1", "1"));
        due("creditor(0) ahead of any", x.creditor(0), 0);
        due("creditor(1) ahead of any", x.creditor(1), 0);
        // Two bits each: b, b, c, c: -1 for each of these, 1 for a and d.
        store(x, bits("01 01 10 10"));
        for (int i = 0; i < 4; i++) {
            x.pick(1);
        }
        due("creditor(0) of a and d", x.creditor(0), 0);
        due("creditor(1) of b and c", x.creditor(1), 1);
        weigh(x, 3, 3072);
        due("creditor(0): d by NEW", x.creditor(0), 3);
        ShareWheel one = told(text(2, "7"));
        due("creditor(0) of one", one.creditor(0), 0);
        due("creditor(1) of one", one.creditor(1), 0);
        x = told(text(16, "1", "0"));
        due("one without weight counts as well", x.creditor(1), 0);
        x.chance(5, 1);
        due("OWED 0 and 0", x.creditor(0), 0);
        x = told(sixteen(16, "9999"));
        tell(x, text(16, "1", "1"));
        x.chance(60, 1);
        due("THINGS of a wheel ahead are none", x.creditor(0) < 2, true);
        due("THINGS of a wheel ahead are none", x.creditor(1) < 2, true);
        due("the two are unlike", x.creditor(0) != x.creditor(1) || x.owed(0) == x.owed(1), true);
        x = told(text(16, "1", "0"));
        by("19: NONE without a TOTAL, or for others");
        ShareWheel y = x;
        due("creditor(2)", x.creditor(2), NONE);
        due("creditor(-1)", x.creditor(-1), NONE);
        dueFar("creditor", y::creditor, NONE);
        due("creditor(0) without a TOTAL", told(text(2, "0")).creditor(0), NONE);
        due("creditor(1) without a TOTAL", told(text(2, "0")).creditor(1), NONE);
        due("creditor(0) without a wheel", new ShareWheel().creditor(0), NONE);
    }

    private static void team() {
        String text = sixteen(16, "9999") + "team w of p;team x of a,p;team y of b,c,d;"
                + "team z of a,b,c,d,e,f,g,h,i,j,k,l,m,n,o,p;";
        by("20: its THINGS, as bits; NEW of all");
        ShareWheel x = told(text);
        int[] masks = {32768, 32769, 14, 65535};
        int[] sums = {MOST, 2 * MOST, 3 * MOST, 16 * MOST};
        for (int t = 0; t < 4; t++) {
            due("team(" + t + ", 0)", x.team(t, 0), masks[t]);
            due("team(" + t + ", 1)", x.team(t, 1), sums[t]);
            due("team(" + t + ", 2)", x.team(t, 2), 0);
        }
        by("20: COUNTS of all");
        // Sixteen parts, four bits: a, b, c, p, p.
        store(x, bits("0000 0001 0010 1111 1111"));
        for (int i = 0; i < 5; i++) {
            x.pick(1);
        }
        int[] counts = {2, 3, 2, 5};
        for (int t = 0; t < 4; t++) {
            due("team(" + t + ", 2)", x.team(t, 2), counts[t]);
        }
        by("20: the THING of the greatest NEW, of like ones the first");
        due("team(1, 3)", x.team(1, 3), 0);
        due("team(3, 3)", x.team(3, 3), 0);
        weigh(x, 0, MOST - 1);
        due("team(1, 3)", x.team(1, 3), 15);
        due("team(3, 3)", x.team(3, 3), 1);
        due("the first by numbers, not as told", told(text(2, "1", "1") + "team x of b,a;").team(0, 3), 0);
        due("all without weight", told(text(2, "5", "0", "0") + "team x of c,b;").team(0, 3), 1);
        by("20: NONE when there is none such, or for others");
        ShareWheel y = told(text);
        due("team(4, 0)", y.team(4, 0), NONE);
        due("team(-1, 0)", y.team(-1, 0), NONE);
        due("team(0, 4)", y.team(0, 4), NONE);
        due("team(0, -1)", y.team(0, -1), NONE);
        dueFar("team(.., 0)", k -> y.team(k, 0), NONE);
        dueFar("team(0, ..)", k -> y.team(0, k), NONE);
        due("team(0, 0) without a TEAM", told(FOUR).team(0, 0), NONE);
        due("team(0, 0) without a wheel", new ShareWheel().team(0, 0), NONE);
    }

    private static void inside() {
        by("22: NEW of a THING by that of all in a TEAM, in lowest terms");
        ShareWheel x = told(FOUR + "team x of a,b,d;team y of d;team z of c;");
        fraction("a in x", x.inside(0, 0, 0), x.inside(0, 0, 1), 1, 4);
        fraction("b in x", x.inside(0, 1, 0), x.inside(0, 1, 1), 3, 4);
        fraction("d in x, without weight", x.inside(0, 3, 0), x.inside(0, 3, 1), 0, 1);
        fraction("c in z, alone", x.inside(2, 2, 0), x.inside(2, 2, 1), 1, 1);
        by("22: NONE when the TEAM has no weight, the THING is not in it, there are none such, or for others");
        due("y has no weight", x.inside(1, 3, 0), NONE);
        due("y has no weight", x.inside(1, 3, 1), NONE);
        due("c is not in x", x.inside(0, 2, 0), NONE);
        due("no THING 4", x.inside(0, 4, 0), NONE);
        due("no THING -1", x.inside(0, -1, 0), NONE);
        due("no TEAM 3", x.inside(3, 0, 0), NONE);
        due("no TEAM -1", x.inside(-1, 0, 0), NONE);
        due("what 2", x.inside(0, 0, 2), NONE);
        due("what -1", x.inside(0, 0, -1), NONE);
        dueFar("inside(.., 0, 0)", k -> x.inside(k, 0, 0), NONE);
        dueFar("inside(0, .., 0)", k -> x.inside(0, k, 0), NONE);
        dueFar("inside(0, 0, ..)", k -> x.inside(0, 0, k), NONE);
        due("without a wheel", new ShareWheel().inside(0, 0, 0), NONE);
        weigh(x, 3, 1);
        fraction("the least weight of a TEAM", x.inside(1, 3, 0), x.inside(1, 3, 1), 1, 1);
    }

    private static void quorum() {
        by("25: The fewest THINGS by which a QUOTA is REACHED: at least, by rank()");
        ShareWheel x = told(FOUR);
        int[][] cases = {{0, 1, 0, 0}, {0, 1000, 0, 0}, {1, 1000, 1, 2}, {1, 2, 1, 2}, {501, 1000, 2, 6},
            {500, 1000, 1, 2}, {5, 6, 2, 6}, {833, 1000, 2, 6}, {834, 1000, 3, 7}, {999, 1000, 3, 7},
            {1, 1, 3, 7}, {1000, 1000, 3, 7}};
        for (int[] c : cases) {
            due("quorum(" + c[0] + ", " + c[1] + ", 0)", x.quorum(c[0], c[1], 0), c[2]);
            due("quorum(" + c[0] + ", " + c[1] + ", 1)", x.quorum(c[0], c[1], 1), c[3]);
        }
        x = told(sixteen(2, "9999"));
        due("all sixteen", x.quorum(1, 1, 0), 16);
        due("all sixteen", x.quorum(1, 1, 1), 65535);
        due("fifteen, exactly", x.quorum(15, 16, 0), 15);
        due("fifteen, exactly", x.quorum(15, 16, 1), 32767);
        due("a bit more than fifteen", x.quorum(938, 1000, 0), 16);
        weigh(x, 15, MOST - 1);
        due("a 1024th less", x.quorum(1, 2, 0), 8);
        x = told(text(2, "9999", "9999 by 1", "1 by 1024"));
        due("a half is a 1024th more than one has", x.quorum(1, 2, 0), 2);
        due("a half is a 1024th more than one has", x.quorum(1, 2, 1), 3);
    }

    private static void quorumNone() {
        by("25: (0 .. 1000 by 1 .. 1000); NONE when it can't be, without a TOTAL, or for others");
        ShareWheel x = told(FOUR);
        due("quorum(1000, 999, 0)", x.quorum(1000, 999, 0), NONE);
        due("quorum(1000, 1, 1)", x.quorum(1000, 1, 1), NONE);
        due("quorum(1001, 1000, 0)", x.quorum(1001, 1000, 0), NONE);
        due("quorum(-1, 1000, 0)", x.quorum(-1, 1000, 0), NONE);
        due("quorum(1, 1001, 0)", x.quorum(1, 1001, 0), NONE);
        due("quorum(0, 0, 0)", x.quorum(0, 0, 0), NONE);
        due("quorum(1, -1, 0)", x.quorum(1, -1, 0), NONE);
        due("quorum(1, 2, 2)", x.quorum(1, 2, 2), NONE);
        due("quorum(1, 2, -1)", x.quorum(1, 2, -1), NONE);
        dueFar("quorum(.., 1, 0)", k -> x.quorum(k, 1, 0), NONE);
        dueFar("quorum(0, .., 0)", k -> x.quorum(0, k, 0), NONE);
        dueFar("quorum(0, 1, ..)", k -> x.quorum(0, 1, k), NONE);
        due("quorum(0, 1, 0) without a TOTAL", told(text(2, "0")).quorum(0, 1, 0), NONE);
        due("quorum(0, 1, 0) without a wheel", new ShareWheel().quorum(0, 1, 0), NONE);
    }

    private static void swings() {
        by("26: How many sets of THINGS a THING SWINGS: in it, REACHED with it, not without it");
        ShareWheel x = told(FOUR);
        // 3 of 6: b with {}, {a}, {c}; a with {c}; c with {a}; each with d and without it.
        int[] half = {2, 6, 2, 0};
        // 4 of 6 (667 of 1000 is more): a with {b}; b with {a}, {c}, {a, c}; c with {b}.
        int[] twoThirds = {2, 6, 2, 0};
        // More than 4 of 6: b with {c}, {a, c}; c with {b}, {a, b}.
        int[] more = {0, 4, 4, 0};
        int[] all = {2, 2, 2, 0};
        for (int t = 0; t < 4; t++) {
            due("swings(" + t + ", 1, 2)", x.swings(t, 1, 2), half[t]);
            due("swings(" + t + ", 2, 3)", x.swings(t, 2, 3), twoThirds[t]);
            due("swings(" + t + ", 667, 1000)", x.swings(t, 667, 1000), more[t]);
            due("swings(" + t + ", 1, 1)", x.swings(t, 1, 1), all[t]);
            due("swings(" + t + ", 1000, 1000)", x.swings(t, 1000, 1000), all[t]);
            due("swings(" + t + ", 0, 1): REACHED by none", x.swings(t, 0, 1), 0);
            due("swings(" + t + ", 0, 1000): REACHED by none", x.swings(t, 0, 1000), 0);
            due("swings(" + t + ", 1000, 999): never REACHED", x.swings(t, 1000, 999), 0);
            due("swings(" + t + ", 1000, 1): never REACHED", x.swings(t, 1000, 1), 0);
        }
        due("the least QUOTA: alone with d", x.swings(0, 1, 1000), 2);
        due("one alone", told(text(2, "5")).swings(0, 1, 1), 1);
        due("one alone", told(text(2, "5")).swings(0, 1, 1000), 1);
        due("sixteen, the first", told(sixteen(2, "9999")).swings(0, 1, 1), 1);
        due("sixteen, the last, by one alone", told(sixteen(2, "9999")).swings(15, 1, 16), 1);
        due("sixteen, by two", told(sixteen(2, "9999")).swings(15, 2, 16), 15);
        due("sixteen, by three", told(sixteen(2, "9999")).swings(7, 3, 16), 105);
        due("sixteen, by a bit more than two", told(sixteen(2, "9999")).swings(7, 126, 1000), 105);
    }

    private static void swingsNone() {
        by("26: NONE without a TOTAL, when these can't be, or there is none such");
        ShareWheel x = told(FOUR);
        due("swings(4, 1, 2)", x.swings(4, 1, 2), NONE);
        due("swings(-1, 1, 2)", x.swings(-1, 1, 2), NONE);
        due("swings(0, -1, 2)", x.swings(0, -1, 2), NONE);
        due("swings(0, 1001, 1000)", x.swings(0, 1001, 1000), NONE);
        due("swings(0, 1, 0)", x.swings(0, 1, 0), NONE);
        due("swings(0, 0, 0)", x.swings(0, 0, 0), NONE);
        due("swings(0, 1, 1001)", x.swings(0, 1, 1001), NONE);
        dueFar("swings(.., 1, 2)", k -> x.swings(k, 1, 2), NONE);
        dueFar("swings(0, .., 2)", k -> x.swings(0, k, 2), NONE);
        dueFar("swings(0, 1, ..)", k -> x.swings(0, 1, k), NONE);
        due("without a TOTAL", told(text(2, "0")).swings(0, 1, 2), NONE);
        due("without a wheel", new ShareWheel().swings(0, 1, 2), NONE);
    }

    // ---- OLD and NEW apart

    private static final String TEAMS = "team x of a,b;team y of d,c;";

    /** OLD are 4, 4, 4, 4, NEW 1, 8, 6, 4: Q is 3 of 16, so that there is no MERGING. */
    private static ShareWheel apart() {
        ShareWheel x = told(text(16, "4", "4", "4", "4") + TEAMS);
        weigh(x, 0, 1024);
        weigh(x, 1, 8192);
        weigh(x, 2, 6144);
        due("no MERGING", x.has(8), 0);
        due("T", x.has(3), 16384);
        due("TOTAL", x.has(2), 19456);
        return x;
    }

    private static void byNewAlone() {
        by("III: A SHARE of a THING is NEW by TOTAL, whatever OLD is");
        ShareWheel x = apart();
        fraction("b", x.share(1, 0), x.share(1, 1), 8, 19);
        fraction("b, were d 5", x.would(3, 5120, 1, 0), x.would(3, 5120, 1, 1), 2, 5);
        fraction("b, were b 1", x.would(1, 1024, 1, 0), x.would(1, 1024, 1, 1), 1, 12);
        needed(x, 0, 1, 2, 18432);
        needed(x, 1, 1, 2, 11264);
        due("b and c have 14 of 19", x.quorum(14, 19, 0), 2);
        due("b and c have 14 of 19", x.quorum(14, 19, 1), 6);
        due("more than 14 of 19", x.quorum(15, 19, 1), 14);
        // 10 of 19: b with {c}, {d}, {a, c}, {a, d}; {c, d} has 10 without it.
        due("swings(1, 10, 19)", x.swings(1, 10, 19), 4);
        // 9 of 19: a with {b} alone.
        due("swings(0, 9, 19)", x.swings(0, 9, 19), 1);
        fraction("b in x", x.inside(0, 1, 0), x.inside(0, 1, 1), 8, 9);
        due("NEW of y", x.team(1, 1), 10240);
        due("the greatest of y", x.team(1, 3), 2);
    }

    /** What OLD does not matter to is answered as by a wheel that was told with these weights. */
    private static void sameAsTold() {
        by("III, II: SHARES, QUOTAS, TEAMS, WAYS 1 and 2, DEALS are by NEW alone, GRAIN being the same");
        ShareWheel x = apart();
        ShareWheel y = told(text(16, "1", "8", "6", "4") + TEAMS);
        due("GRAIN", x.has(6), y.has(6));
        for (int t = 0; t < 4; t++) {
            for (int k = 0; k < 4; k++) {
                due("rank, team", x.rank(k) * 10 + x.team(k % 2, 1 + k), y.rank(k) * 10 + y.team(k % 2, 1 + k));
                due("band", x.band(t, k), y.band(t, k));
                due("would(" + t + ", 3000, " + k + ", 0)", x.would(t, 3000, k, 0), y.would(t, 3000, k, 0));
                due("would(" + t + ", 3000, " + k + ", 1)", x.would(t, 3000, k, 1), y.would(t, 3000, k, 1));
                due("pairs(9, " + t + ", " + k + ")", x.pairs(9, t, k), y.pairs(9, t, k));
                due("rowsIn(" + k % 2 + ", 7, " + t + ")", x.rowsIn(k % 2, 7, t), y.rowsIn(k % 2, 7, t));
                due("swings(" + t + ", " + k + ", 5)", x.swings(t, k, 5), y.swings(t, k, 5));
                due("needs(" + t + ", " + k + ", 7)", x.needs(t, k, 7), y.needs(t, k, 7));
                due("quorum(" + (4 * t + k) + ", 19, 1)", x.quorum(4 * t + k, 19, 1), y.quorum(4 * t + k, 19, 1));
            }
            for (int way = 1; way < 3; way++) {
                due("rows(" + way + ", 10, " + t + ")", x.rows(way, 10, t), y.rows(way, 10, t));
                due("fewest(" + way + ", " + t + ", 1)", x.fewest(way, t, 1), y.fewest(way, t, 1));
            }
        }
    }

    private static void leastTotal() {
        by("18, 19: OWED with a TOTAL of a single 1024th");
        ShareWheel x = told(text(16, "0", "1"));
        due("chance(3, 1)", x.chance(3, 1), 1);
        weigh(x, 0, 1);
        weigh(x, 1, 0);
        due("TOTAL", x.has(2), 1);
        due("all of 3 to a", x.owed(0), 3);
        due("none to b, less 3", x.owed(1), -3);
        due("creditor(0)", x.creditor(0), 0);
        due("creditor(1)", x.creditor(1), 1);
        fraction("a", x.share(0, 0), x.share(0, 1), 1, 1);
        due("quorum(1, 1, 1)", x.quorum(1, 1, 1), 1);
        due("swings(0, 1, 1000)", x.swings(0, 1, 1000), 2);
    }
}
