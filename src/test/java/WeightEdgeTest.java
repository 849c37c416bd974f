/** Edges of weights, THE TABLE, MERGING and REASONS: promises 6, 8 to 12, 17, 37 to 40, and the first part of Terms II. */
public final class WeightEdgeTest extends Desk {
    public static void main(String[] args) {
        hasAsked();
        hasWithoutWheel();
        greatestSums();
        grain();
        moreAndLess();
        thingAsked();
        weightAsked();
        withoutTable();
        table();
        masses();
        ranks();
        mergingByNumber();
        mergingByLoss();
        mergesAsked();
        numberToMerge();
        mergedAsked();
        noSuchThing();
        noNumber();
        infinite();
        belowZero();
        tooMuch();
        notWhole();
        sameWeight();
        firstReason();
        whyAsked();
        close("WeightEdgeTest");
    }

    // ---- what there is

    private static void hasAsked() {
        by("6: NONE for others");
        ShareWheel x = told(text(2, "1", "2"));
        due("has(14)", x.has(14), 1);
        due("has(15)", x.has(15), NONE);
        due("has(-1)", x.has(-1), NONE);
        dueFar("has", x::has, NONE);
        dueFar("has without a wheel", k -> new ShareWheel().has(k), NONE);
        due("has(15) without a wheel", new ShareWheel().has(15), NONE);
        due("has(-1) without a wheel", new ShareWheel().has(-1), NONE);
    }

    private static void hasWithoutWheel() {
        by("6: Without a wheel all but the seed are 0");
        ShareWheel x = new ShareWheel();
        for (int what = 0; what < 14; what++) {
            due("has(" + what + ")", x.has(what), 0);
        }
        due("has(14)", x.has(14), 1);
        x.seed(77);
        due("has(14)", x.has(14), 77);
        due("wheel() with a FAULT makes none", tell(x, "wheel merge 9;thing"), NONE);
        for (int what = 0; what < 14; what++) {
            due("has(" + what + ")", x.has(what), 0);
        }
        by("6: a wheel without THINGS");
        x = told("wheel merge 9;");
        for (int what = 0; what < 14; what++) {
            due("has(" + what + ")", x.has(what), what == 1 ? 9 : what == 6 ? 1 : 0);
        }
    }

    private static void greatestSums() {
        by("II: from 0 to 9999 times 1024; T are all OLD ones together, TOTAL all NEW ones");
        ShareWheel x = told(sixteen(16, "9999"));
        due("TOTAL", x.has(2), 16 * MOST);
        due("T", x.has(3), 16 * MOST);
        due("GRAIN", x.has(6), MOST);
        for (int i = 0; i < 4; i++) {
            weigh(x, i, 0);
        }
        due("TOTAL", x.has(2), 12 * MOST);
        due("T", x.has(3), 16 * MOST);
        due("Q", x.has(5), 4 * MOST);
        due("P", x.has(4), 0);
        due("unlike ones", x.has(7), 4);
        x = told(sixteen(16, "0"));
        due("TOTAL of nothing", x.has(2), 0);
        for (int i = 0; i < 16; i++) {
            weigh(x, i, MOST);
        }
        due("TOTAL", x.has(2), 16 * MOST);
        due("T", x.has(3), 0);
        due("P", x.has(4), 16 * MOST);
        due("Q", x.has(5), 0);
        due("unlike ones", x.has(7), 16);
        due("MERGING", x.has(8), 0);
    }

    private static void grain() {
        by("II: GRAIN is the greatest number by which all OLD and NEW ones can be divided (1, if all are 0)");
        due("all 0", told(text(2, "0", "0")).has(6), 1);
        due("one alone", told(text(2, "9999")).has(6), MOST);
        due("one beside 0", told(text(2, "0", "12", "0")).has(6), 12 * 1024);
        due("12 and 18", told(text(2, "12", "18")).has(6), 6 * 1024);
        due("a 1024th", told(text(2, "12", "1 by 1024")).has(6), 1);
        due("3 and 5 1024ths", told(text(2, "3 by 1024", "5 by 1024")).has(6), 1);
        ShareWheel x = told(text(9, "12", "18"));
        weigh(x, 0, 16 * 1024);
        due("12 is OLD, 16 NEW, 18 both", x.has(6), 2 * 1024);
        x.merged();
        due("16 and 18", x.has(6), 2 * 1024);
        weigh(x, 1, 32 * 1024);
        due("18 is OLD still", x.has(6), 2 * 1024);
        x.merged();
        due("16 and 32", x.has(6), 16 * 1024);
        x = told(text(16, "6", "0"));
        due("on()", on(x, image(16, 6144, 0, 0, 0)), true);
        due("OLD alone", x.has(6), 6144);
        due("on()", on(x, image(16, 0, 6145, 0, 0)), true);
        due("NEW alone", x.has(6), 6145);
    }

    private static void moreAndLess() {
        by("II: MORE is what NEW is above OLD (0, if it is not), LESS what it is below");
        ShareWheel x = told(text(9, "4", "4", "4", "4"));
        weigh(x, 0, 4097);
        weigh(x, 1, 4095);
        int[][] want = {{4096, 4097, 1, 0}, {4096, 4095, 0, 1}, {4096, 4096, 0, 0}};
        for (int t = 0; t < 3; t++) {
            for (int what = 0; what < 4; what++) {
                due("thing(" + t + ", " + what + ")", x.thing(t, what), want[t][what]);
            }
        }
        due("P", x.has(4), 1);
        due("Q", x.has(5), 1);
        weigh(x, 2, MOST);
        weigh(x, 3, 4096 - 1023);
        due("P", x.has(4), 1 + MOST - 4096);
        due("Q", x.has(5), 1024);
        weigh(x, 0, 4096);
        due("unlike ones", x.has(7), 3);
    }

    private static void thingAsked() {
        by("8: NONE when there is none such, or for others");
        ShareWheel x = told(sixteen(2, "3"));
        due("thing(15, 4)", x.thing(15, 4), 0);
        due("thing(15, 1)", x.thing(15, 1), 3072);
        due("thing(16, 1)", x.thing(16, 1), NONE);
        due("thing(-1, 1)", x.thing(-1, 1), NONE);
        due("thing(0, 5)", x.thing(0, 5), NONE);
        due("thing(0, -1)", x.thing(0, -1), NONE);
        dueFar("thing(.., 1)", k -> x.thing(k, 1), NONE);
        dueFar("thing(0, ..)", k -> x.thing(0, k), NONE);
        due("thing(0, 0) without a wheel", new ShareWheel().thing(0, 0), NONE);
        due("thing(0, 0) without THINGS", told("wheel merge 2;").thing(0, 0), NONE);
    }

    private static void weightAsked() {
        by("9: NEW of a THING as a double of wholes, as bits");
        ShareWheel x = told(text(16, "9999", "0", "1 by 1024"));
        due("9999", x.weight(0), 0x40C3878000000000L);
        due("0", x.weight(1), 0L);
        due("1 by 1024", x.weight(2), 0x3F50000000000000L);
        for (int parts : new int[] {2, 3, 1023, 1025, 2047, 2048, 2049, MOST - 1}) {
            weigh(x, 2, parts);
            due("weight of " + parts, x.weight(2), Double.doubleToLongBits(parts / 1024.0));
        }
        due("set to -0.0", set(x, 2, -0.0), 0);
        due("0.0 it is", x.weight(2), 0L);
        by("9: -1 when there is none such");
        due("weight(3)", x.weight(3), -1L);
        due("weight(-1)", x.weight(-1), -1L);
        dueFar("weight", x::weight, -1L);
        due("weight(0) without a wheel", new ShareWheel().weight(0), -1L);
    }

    // ---- THE TABLE

    private static void withoutTable() {
        by("II: THE TABLE has, if T is above 0, a column for each; 10: NONE when there is none such, or for others");
        ShareWheel x = told(text(16, "0", "0"));
        due("column(0, 0) without T", x.column(0, 0), NONE);
        due("column(0, 1) without T", x.column(0, 1), NONE);
        weigh(x, 0, 1);
        due("column(0, 0) without T, with P", x.column(0, 0), NONE);
        due("mass(0) without T, with P", x.mass(0), NONE);
        due("merged()", x.merged(), true);
        due("column(0, 0) of the least T", x.column(0, 0), 1);
        due("column(1, 0) of the least T", x.column(1, 0), 0);
        due("column(1, 1) of the least T", x.column(1, 1), 0);
        due("column(2, 0)", x.column(2, 0), NONE);
        due("column(-1, 0)", x.column(-1, 0), NONE);
        due("column(0, 2)", x.column(0, 2), NONE);
        due("column(0, -1)", x.column(0, -1), NONE);
        dueFar("column(.., 0)", k -> told(text(2, "1")).column(k, 0), NONE);
        dueFar("column(0, ..)", k -> told(text(2, "1")).column(0, k), NONE);
        due("column(0, 0) without a wheel", new ShareWheel().column(0, 0), NONE);
        due("column(0, 0) without THINGS", told("wheel merge 2;").column(0, 0), NONE);
        due("column(15, 0)", told(sixteen(2, "1")).column(15, 0), 16);
        due("column(16, 0)", told(sixteen(2, "1")).column(16, 0), NONE);
    }

    private static void columns(ShareWheel x, int[] own, int[] alias) {
        for (int i = 0; i < own.length; i++) {
            due("column(" + i + ", 0)", x.column(i, 0), own[i]);
            due("column(" + i + ", 1)", x.column(i, 1), alias[i]);
        }
    }

    private static void table() {
        by("II: one not closed whose REST is below T: the first such one, by numbers");
        // REST 4, 8, 12, 16 of 10: a by c (6), b by d (14), c by d (10).
        columns(told(text(2, "1", "2", "3", "4")), new int[] {4, 8, 6, 10}, new int[] {2, 3, 3, 3});
        // REST 9, 0, 15 of 8: b by a (1), then a, which is the first now, by c (8).
        columns(told(text(2, "3", "0", "5")), new int[] {1, 0, 8}, new int[] {2, 0, 2});
        // REST 8, 0, 4, 20 of 8: b by d (12), c by d (8); a is T at once.
        columns(told(text(2, "2", "0", "1", "5")), new int[] {8, 0, 4, 8}, new int[] {0, 3, 3, 3});
        by("II: as ALIAS the first one whose REST is above T");
        // REST 4, 8, 4, 0 of 4: b is above; by d it is 4.
        columns(told(text(2, "1", "2", "1", "0")), new int[] {4, 4, 4, 0}, new int[] {0, 1, 2, 1});
        // REST 4, 4, 0, 0 of 2: c by a (2), d by b (2): a is T then, and not above it.
        columns(told(text(2, "1", "1", "0", "0")), new int[] {2, 2, 0, 0}, new int[] {0, 1, 0, 1});
        by("II: all others at last have T as OWN, themselves as ALIAS");
        columns(told(text(2, "7")), new int[] {1}, new int[] {0});
        columns(told(text(2, "7", "7", "7")), new int[] {3, 3, 3}, new int[] {0, 1, 2});
        columns(told(text(2, "3", "1", "2")), new int[] {6, 3, 6}, new int[] {0, 0, 2});
        ShareWheel x = told(text(2, "9999", "0", "0", "0", "0", "0", "0", "0", "0", "0", "0", "0", "0", "0", "0", "0"));
        for (int i = 0; i < 16; i++) {
            due("column(" + i + ", 0)", x.column(i, 0), i == 0 ? 1 : 0);
            due("column(" + i + ", 1)", x.column(i, 1), 0);
        }
        by("II: the greatest REST");
        x = told(sixteen(2, "9999"));
        columns(x, new int[] {16, 16}, new int[] {0, 1});
        weigh(x, 15, MOST - 1);
        x.merged();
        due("column(15, 0)", x.column(15, 0), 16 * MOST - 16);
        due("column(15, 1)", x.column(15, 1), 0);
        // T is one less than the REST of the others: each one that closes one is poor by that.
        for (int i = 0; i < 14; i++) {
            due("column(" + i + ", 0)", x.column(i, 0), 16 * MOST - 15 + i);
            due("column(" + i + ", 1)", x.column(i, 1), i + 1);
        }
        due("column(14, 0)", x.column(14, 0), 16 * MOST - 1);
        due("column(14, 1)", x.column(14, 1), 14);
        for (int i = 0; i < 16; i++) {
            due("mass(" + i + ")", x.mass(i), i < 15 ? 16 * MOST : 16 * MOST - 16);
        }
        by("10: OWN, by GRAIN; THE TABLE is made from OLD");
        x = told(text(16, "1", "3"));
        columns(x, new int[] {2, 4}, new int[] {1, 1});
        weigh(x, 1, 3073);
        columns(x, new int[] {2048, 4096}, new int[] {1, 1});
        x.merged();
        columns(x, new int[] {2048, 4097}, new int[] {1, 1});
    }

    private static void masses() {
        by("11: its OWN, and what others are below T / GRAIN of which it is the ALIAS");
        ShareWheel x = told(text(16, "1", "2", "3", "4"));
        int[] want = {4, 8, 12, 16};
        for (int i = 0; i < 4; i++) {
            due("mass(" + i + ")", x.mass(i), want[i]);
        }
        weigh(x, 0, 1536);
        due("mass(3) by another GRAIN", x.mass(3), 32);
        due("mass(0) as OLD is", x.mass(0), 8);
        due("mass(0) of all", told(text(2, "9999", "0")).mass(0), 2);
        due("mass(1) of nothing", told(text(2, "9999", "0")).mass(1), 0);
        due("mass(0) of one", told(text(2, "5")).mass(0), 1);
        ShareWheel most = told(text(2, "9999", "1 by 1024"));
        due("mass(0) of great ones", most.mass(0), 2 * MOST);
        due("mass(1) of a small one", most.mass(1), 2);
        by("11: NONE without THE TABLE, or when there is none such");
        due("mass(4)", x.mass(4), NONE);
        due("mass(-1)", x.mass(-1), NONE);
        dueFar("mass", x::mass, NONE);
        due("mass(0) without T", told(text(2, "0")).mass(0), NONE);
        due("mass(0) without a wheel", new ShareWheel().mass(0), NONE);
    }

    private static void ranks() {
        by("12: by NEW, the greatest first, of like ones by numbers");
        ShareWheel x = told(text(16, "2", "9999", "2", "0", "9999", "0"));
        int[] want = {1, 4, 0, 2, 3, 5};
        for (int k = 0; k < 6; k++) {
            due("rank(" + k + ")", x.rank(k), want[k]);
        }
        weigh(x, 2, 2049);
        due("rank(2) by a 1024th", x.rank(2), 2);
        due("rank(3)", x.rank(3), 0);
        by("12: NONE when there is none such");
        due("rank(6)", x.rank(6), NONE);
        due("rank(-1)", x.rank(-1), NONE);
        dueFar("rank", x::rank, NONE);
        due("rank(15) of like ones", told(sixteen(2, "0")).rank(15), 15);
        due("rank(16)", told(sixteen(2, "0")).rank(16), NONE);
        due("rank(0) without a wheel", new ShareWheel().rank(0), NONE);
        due("rank(0) without THINGS", told("wheel merge 1;").rank(0), NONE);
    }

    // ---- MERGING

    private static void mergingByNumber() {
        by("II: by which more THINGS than that have unlike OLD and NEW: the number 0");
        ShareWheel x = told(text(0, "4", "4"));
        weigh(x, 0, 4097);
        due("has(8)", x.has(8), 1);
        due("has(7)", x.has(7), 0);
        due("OLD is NEW", x.thing(0, 0), 4097);
        due("THE TABLE is made anew", x.column(0, 0), 8193);
        weigh(x, 0, 4096);
        due("has(8)", x.has(8), 2);
        by("II: the number 16");
        x = told(sixteen(16, "5"));
        for (int i = 0; i < 16; i++) {
            weigh(x, i, 5121);
        }
        due("all are unlike", x.has(7), 16);
        due("no MERGING", x.has(8), 0);
        due("OLD", x.thing(15, 0), 5120);
        due("merge(15)", x.merge(15), true);
        due("MERGING", x.has(8), 1);
        due("OLD is NEW for all", x.thing(15, 0), 5121);
        by("II: the number 15 of 16");
        x = told(sixteen(15, "5"));
        for (int i = 0; i < 15; i++) {
            weigh(x, i, 5121);
        }
        due("has(8)", x.has(8), 0);
        due("has(7)", x.has(7), 15);
        weigh(x, 15, 5121);
        due("has(8)", x.has(8), 1);
        due("has(7)", x.has(7), 0);
        by("II: as many as that, and one more; one that has its OLD weight again does not count");
        x = told(text(1, "4", "4", "4"));
        weigh(x, 0, 4097);
        due("one", x.has(8), 0);
        weigh(x, 0, 4098);
        due("the same one", x.has(8), 0);
        weigh(x, 0, 4096);
        due("none", x.has(7), 0);
        weigh(x, 1, 4097);
        due("one", x.has(8), 0);
        weigh(x, 2, 4097);
        due("two", x.has(8), 1);
    }

    private static void mergingByLoss() {
        by("II: or 4 Q is more than T");
        ShareWheel x = told(text(16, "4", "4", "8"));
        weigh(x, 0, 0);
        due("4 Q is T", x.has(8), 0);
        due("Q", x.has(5), 4096);
        weigh(x, 1, 4097);
        due("P is of no matter", x.has(8), 0);
        weigh(x, 2, 8191);
        due("4 Q is above T", x.has(8), 1);
        due("T", x.has(3), 4097 + 8191);
        due("Q", x.has(5), 0);
        x = told(text(16, "4", "4", "8"));
        weigh(x, 2, 4095);
        due("by one THING", x.has(8), 1);
        x = told(text(16, "4", "4", "8"));
        weigh(x, 2, 4096);
        due("by one THING, T", x.has(8), 0);
        by("II: 4 Q against the greatest T");
        x = told(sixteen(16, "9999"));
        for (int i = 0; i < 4; i++) {
            weigh(x, i, 0);
        }
        due("4 Q is T", x.has(8), 0);
        weigh(x, 4, MOST - 1);
        due("4 Q is above T", x.has(8), 1);
        by("II: 4 Q against T 0 and against the least T");
        x = told(text(16, "0", "0"));
        weigh(x, 0, 5);
        due("T is 0", x.has(8), 0);
        weigh(x, 0, 0);
        due("T is 0", x.has(8), 0);
        x = told(text(16, "1 by 1024", "2 by 1024"));
        weigh(x, 0, 0);
        due("4 of 3", x.has(8), 1);
        x = told(text(16, "1 by 1024", "3 by 1024"));
        weigh(x, 0, 0);
        due("4 of 4", x.has(8), 0);
        x = told(text(16, "4"));
        weigh(x, 0, 0);
        due("all of it", x.has(8), 1);
        due("T", x.has(3), 0);
    }

    private static void mergesAsked() {
        by("17: Whether there would be MERGING: 4 Q against T");
        ShareWheel x = told(text(16, "4", "4", "8"));
        due("merges(0, 0)", x.merges(0, 0), 0);
        due("merges(2, 4096)", x.merges(2, 4096), 0);
        due("merges(2, 4095)", x.merges(2, 4095), 1);
        weigh(x, 0, 0);
        due("merges(2, 8192)", x.merges(2, 8192), 0);
        due("merges(2, 8191)", x.merges(2, 8191), 1);
        due("merges(0, 1)", x.merges(0, 1), 0);
        due("merges(2, 9999 times 1024)", x.merges(2, MOST), 0);
        by("17: Whether there would be MERGING: the number to merge");
        x = told(text(1, "4", "4", "8"));
        due("one", x.merges(0, 4097), 0);
        weigh(x, 0, 4097);
        due("the same one", x.merges(0, 4098), 0);
        due("none", x.merges(0, 4096), 0);
        due("another one, alike", x.merges(1, 4096), 0);
        due("another one", x.merges(1, 4097), 1);
        due("another one", x.merges(2, MOST), 1);
        due("the number 0", told(text(0, "4", "4")).merges(0, 4097), 1);
        due("the number 0, alike", told(text(0, "4", "4")).merges(0, 4096), 0);
        by("17: behind on(), by which more THINGS than that can be unlike");
        ShareWheel taken = told(text(0, "4", "4"));
        due("on()", on(taken, image(0, 4096, 4097, 4096, 4096)), true);
        due("another weight of the unlike one", taken.merges(0, 4098), 1);
        due("its OLD weight", taken.merges(0, 4096), 0);
        due("a weight of another", taken.merges(1, 4097), 1);
        due("on()", on(taken, image(1, 4096, 4097, 4096, 4097)), true);
        due("another weight of one of two", taken.merges(0, 4098), 1);
        due("the OLD weight of one of two", taken.merges(0, 4096), 0);
        by("17: nothing is changed by the question");
        due("has(8)", x.has(8), 0);
        due("has(13)", x.has(13), 1);
        due("thing(2, 1)", x.thing(2, 1), 8192);
        by("17: NONE when that can't be, or there is none such");
        due("merges(0, -1)", x.merges(0, -1), NONE);
        due("merges(0, 0)", x.merges(0, 0), 0);
        due("merges(0, 9999 times 1024)", x.merges(0, MOST), 0);
        due("merges(0, 9999 times 1024 and 1)", x.merges(0, MOST + 1), NONE);
        due("merges(3, 0)", x.merges(3, 0), NONE);
        due("merges(-1, 0)", x.merges(-1, 0), NONE);
        ShareWheel y = x;
        dueFar("merges(.., 0)", k -> y.merges(k, 0), NONE);
        dueFar("merges(0, ..)", k -> y.merges(0, k), NONE);
        due("merges(0, 0) without a wheel", new ShareWheel().merges(0, 0), NONE);
    }

    private static void numberToMerge() {
        by("39: Another number to merge (0 .. 16); false, refused (3), when it is that, it can't be");
        ShareWheel x = told(text(5, "4", "4"));
        due("merge(5)", x.merge(5), false);
        due("merge(-1)", x.merge(-1), false);
        due("merge(17)", x.merge(17), false);
        dueFar("merge", k -> x.merge(k) ? 1 : 0, 0);
        due("status(3)", x.status(3), 3 + FAR.length);
        due("no ACT", x.has(13), 0);
        due("has(1)", x.has(1), 5);
        due("merge(0)", x.merge(0), true);
        due("has(1)", x.has(1), 0);
        due("merge(0)", x.merge(0), false);
        due("merge(16)", x.merge(16), true);
        due("has(1)", x.has(1), 16);
        due("merge(16)", x.merge(16), false);
        due("has(13)", x.has(13), 2);
        due("has(8)", x.has(8), 0);
        due("status(3)", x.status(3), 5 + FAR.length);
        by("39: or without a wheel");
        ShareWheel y = new ShareWheel();
        due("merge(3)", y.merge(3), false);
        due("merge(0)", y.merge(0), false);
        due("status(3)", y.status(3), 2);
        due("has(1)", y.has(1), 0);
        due("a wheel without THINGS has one", told("wheel merge 2;").merge(3), true);
        by("II: MERGING comes behind each change of the number to merge, by which ..");
        ShareWheel z = told(text(16, "4", "4", "4"));
        weigh(z, 0, 4097);
        weigh(z, 1, 4097);
        due("merge(2)", z.merge(2), true);
        due("two unlike ones, 2", z.has(8), 0);
        due("merge(1)", z.merge(1), true);
        due("two unlike ones, 1", z.has(8), 1);
        due("has(7)", z.has(7), 0);
        due("one ACT", z.has(13), 4);
        due("merge(0)", z.merge(0), true);
        due("none unlike, 0", z.has(8), 1);
    }

    private static void mergedAsked() {
        by("40: MERGING: true; false, refused (3), when no OLD and NEW are unlike");
        ShareWheel x = told(text(16, "4", "4"));
        due("merged()", x.merged(), false);
        due("status(3)", x.status(3), 1);
        due("no ACT", x.has(13), 0);
        due("has(8)", x.has(8), 0);
        weigh(x, 1, 4097);
        due("merged() of one", x.merged(), true);
        due("has(8)", x.has(8), 1);
        due("OLD", x.thing(1, 0), 4097);
        due("an ACT", x.has(13), 2);
        due("merged() again", x.merged(), false);
        weigh(x, 1, 4096);
        weigh(x, 1, 4097);
        due("merged() of what is back", x.merged(), false);
        due("status(3)", x.status(3), 3);
        due("without a wheel", new ShareWheel().merged(), false);
        due("without THINGS", told("wheel merge 2;").merged(), false);
    }

    // ---- REASONS

    private static void refused(ShareWheel x, int thing, long bits, int reason, int cause) {
        String call = "set(" + thing + ", " + Double.longBitsToDouble(bits) + ")";
        int counted = x.status(2);
        int acts = x.has(13);
        long weight = x.weight(thing);
        due(call, setBits(x, thing, bits), NONE);
        due("why(0) of " + call, x.why(0), reason);
        due("why(1) of " + call, x.why(1), cause);
        due("status(2) of " + call, x.status(2), counted + 1);
        due("no ACT: " + call, x.has(13), acts);
        due("the weight stays: " + call, x.weight(thing), weight);
    }

    private static void refused(ShareWheel x, int thing, double weight, int reason, int cause) {
        refused(x, thing, Double.doubleToRawLongBits(weight), reason, cause);
    }

    private static void noSuchThing() {
        by("II: REASONS: 1 there is no such THING");
        ShareWheel x = told(sixteen(2, "3"));
        refused(x, 16, 1.0, 1, 0);
        refused(x, -1, 1.0, 1, 0);
        for (int thing : FAR) {
            refused(x, thing, 1.0, 1, 0);
        }
        due("set(15, 1.0)", set(x, 15, 1.0), 1024);
        due("set(0, 1.0)", set(x, 0, 1.0), 1024);
        refused(told("wheel merge 2;"), 0, 1.0, 1, 0);
        refused(new ShareWheel(), 0, 1.0, 1, 0);
        refused(new ShareWheel(), -1, 1.0, 1, 0);
    }

    private static void noNumber() {
        by("II: REASONS: 2 it is no number");
        ShareWheel x = told(text(2, "3"));
        for (long bits : new long[] {0x7FF0000000000001L, 0x7FF0000080000000L, 0x7FF0000100000000L,
            0x7FF8000000000000L, 0x7FFFFFFFFFFFFFFFL, 0xFFF0000000000001L, 0xFFF8000000000000L, 0xFFFFFFFFFFFFFFFFL}) {
            refused(x, 0, bits, 2, 0);
        }
    }

    private static void infinite() {
        by("II: REASONS: 3 it is infinite");
        ShareWheel x = told(text(2, "3"));
        refused(x, 0, 0x7FF0000000000000L, 3, 0);
        refused(x, 0, 0xFFF0000000000000L, 3, 0);
        refused(x, 0, 0x7FEFFFFFFFFFFFFFL, 5, 1);
        refused(x, 0, 0xFFEFFFFFFFFFFFFFL, 4, 0);
    }

    private static void belowZero() {
        by("II: REASONS: 4 it is below 0 (-0.0 is not)");
        ShareWheel x = told(text(16, "3", "0"));
        refused(x, 0, -Double.MIN_VALUE, 4, 0);
        refused(x, 0, 0x8000000100000000L, 4, 0);
        refused(x, 0, -Double.MIN_NORMAL, 4, 0);
        refused(x, 0, -PART, 4, 0);
        refused(x, 0, -1.0, 4, 0);
        refused(x, 0, -3.0, 4, 0);
        refused(x, 0, -Double.MAX_VALUE, 4, 0);
        due("-0.0", set(x, 0, -0.0), 0);
        due("thing(0, 1)", x.thing(0, 1), 0);
        refused(x, 0, -0.0, 7, 0);
        refused(x, 1, -0.0, 7, 0);
    }

    private static void tooMuch() {
        by("II: REASONS: 5 its 1024ths are more than 9999 times 1024");
        ShareWheel x = told(text(16, "3"));
        due("9999", set(x, 0, 9999), MOST);
        due("a 1024th less", set(x, 0, 9999 - PART), MOST - 1);
        refused(x, 0, 9999 + PART, 5, 0);
        refused(x, 0, Math.nextUp(9999.0), 5, 0);
        refused(x, 0, 9999 + PART / 2, 5, 0);
        refused(x, 0, 10000.0, 5, 0);
        by("II: CAUSED by 1, if they are, cut, no int");
        refused(x, 0, 2097152 - PART, 5, 0);
        refused(x, 0, 2097152 - PART / 2, 5, 0);
        refused(x, 0, Math.nextDown(2097152.0), 5, 0);
        refused(x, 0, 2097152.0, 5, 1);
        refused(x, 0, Math.nextUp(2097152.0), 5, 1);
        refused(x, 0, 4194304.0, 5, 1);
        refused(x, 0, 4194304.0 + 5, 5, 1);
        refused(x, 0, 4398046511104.0, 5, 1);
        for (int e = 40; e < 70; e++) {
            refused(told(text(16, "3")), 0, Math.pow(2, e), 5, 1);
            refused(told(text(16, "3")), 0, Math.nextDown(Math.pow(2, e)), 5, 1);
        }
        refused(x, 0, Double.MAX_VALUE, 5, 1);
    }

    private static void notWhole() {
        by("II: REASONS: 6 they are not whole");
        ShareWheel x = told(text(16, "3"));
        refused(x, 0, Math.nextDown(9999.0), 6, 0);
        refused(x, 0, 9999 - PART / 2, 6, 0);
        refused(x, 0, 1 + PART / 2, 6, 0);
        refused(x, 0, Math.nextUp(3.0), 6, 0);
        refused(x, 0, 3 * PART / 2, 6, 0);
        refused(x, 0, Math.nextUp(PART), 6, 0);
        by("II: CAUSED by 2, if it is below a 1024th (and above 0)");
        due("a 1024th", set(x, 0, PART), 1);
        refused(x, 0, Math.nextDown(PART), 6, 2);
        refused(x, 0, PART / 2, 6, 2);
        refused(x, 0, PART / 4, 6, 2);
        refused(x, 0, Double.MIN_NORMAL, 6, 2);
        refused(x, 0, Math.nextDown(Double.MIN_NORMAL), 6, 2);
        refused(x, 0, 0x0000000100000000L, 6, 2);
        refused(x, 0, 0x0000000080000000L, 6, 2);
        refused(x, 0, Double.MIN_VALUE, 6, 2);
        for (int e = 11; e < 80; e++) {
            refused(told(text(16, "3")), 0, Math.pow(2, -e), 6, 2);
        }
        due("0", set(x, 0, 0.0), 0);
    }

    private static void sameWeight() {
        by("II: REASONS: 7 it has that weight");
        ShareWheel x = told(text(16, "3", "9999", "0"));
        refused(x, 0, 3.0, 7, 0);
        refused(x, 1, 9999.0, 7, 0);
        refused(x, 2, 0.0, 7, 0);
        refused(x, 2, -0.0, 7, 0);
        due("a 1024th more", set(x, 0, 3 + PART), 3073);
        refused(x, 0, 3 + PART, 7, 0);
        due("OLD is another weight", set(x, 0, 3.0), 3072);
        due("two ACTS", x.has(13), 2);
        due("has(7)", x.has(7), 0);
    }

    private static void firstReason() {
        by("II: REFUSED for the first of these REASONS");
        ShareWheel x = told(text(16, "3"));
        double[] numbers = {Double.NaN, Double.NEGATIVE_INFINITY, -1, -0.3, 1e300, 9999.3, 0.3, 3};
        int[] reasons = {2, 3, 4, 4, 5, 5, 6, 7};
        int[] causes = {0, 0, 0, 0, 1, 0, 0, 0};
        for (int i = 0; i < numbers.length; i++) {
            refused(x, 0, numbers[i], reasons[i], causes[i]);
            refused(x, 1, numbers[i], 1, 0);
        }
        refused(x, 0, -1e-300, 4, 0);
        refused(x, 0, Math.nextUp(2097152.0), 5, 1);
    }

    private static void whyAsked() {
        by("38: Of the latest set() that was REFUSED: its REASON (what 0; 0 ahead of any), by what it was CAUSED (1)");
        ShareWheel x = told(text(16, "3"));
        due("why(0) ahead of any", x.why(0), 0);
        due("why(1) ahead of any", x.why(1), 0);
        set(x, 0, 4);
        due("why(0) ahead of any refused", x.why(0), 0);
        set(x, 0, PART / 2);
        due("why(0)", x.why(0), 6);
        due("why(1)", x.why(1), 2);
        set(x, 0, 5);
        due("why(0) behind one that is taken", x.why(0), 6);
        due("why(1) behind one that is taken", x.why(1), 2);
        x.pick(9);
        x.merge(99);
        due("why(0) behind others that are refused", x.why(0), 6);
        set(x, 0, 5);
        due("why(0) of the latest", x.why(0), 7);
        due("why(1): by nothing else", x.why(1), 0);
        set(x, 0, 1e300);
        due("why(1)", x.why(1), 1);
        by("38: NONE for others");
        due("why(2)", x.why(2), NONE);
        due("why(-1)", x.why(-1), NONE);
        dueFar("why", x::why, NONE);
        by("37: its 1024ths");
        due("set()", set(x, 0, 1.5), 1536);
        due("set()", set(x, 0, 0), 0);
        due("set()", set(x, 0, 9999), MOST);
    }
}
