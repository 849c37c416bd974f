/** Edges of the tape, of texts, their NAMES, numbers and FAULTS: promises 1 to 5, 7, 21, and Terms I. */
public final class TextEdgeTest extends Desk {
    private static final String[] OWN_WORDS = {"wheel", "merge", "thing", "weighs", "by", "team", "of"};
    private static final String HEAD = "wheel merge 2;";
    private static final String ONE = HEAD + "thing a weighs 1;";
    /** No blank that is not needed, and every kind of STATEMENT. */
    private static final String TIGHT = "wheel merge 2;thing a weighs 1 by 2;thing c weighs 3;team b of a,c;";

    public static void main(String[] args) {
        fullTape();
        cutTape();
        tapeGoes();
        withoutStatement();
        firstStatement();
        faultAsked();
        numberToMerge();
        weighs();
        parts();
        digits();
        letters();
        ownWords();
        unlikeNames();
        sixteenThings();
        fourTeams();
        namesInTeams();
        numbered();
        blanks();
        sideBySide();
        endsTooSoon();
        wholeWords();
        firstAlongTheText();
        lettersAsked();
        anotherWheel();
        close("TextEdgeTest");
    }

    private static void fullTape() {
        by("2: NONE, refused (0), if there would be more than 1200");
        ShareWheel x = new ShareWheel();
        for (int i = 1; i <= 60; i++) {
            due("feed no. " + i, x.feed(0x20202020, 0x20202020, 0x20202020, 0x20202020, 0x20202020), 20 * i);
        }
        due("feed no. 61", x.feed(1, 2, 3, 4, 5), NONE);
        due("status(0)", x.status(0), 1);
        due("the tape has what it had", x.end(1201), false);
        due("the tape has what it had", x.end(1200), true);
        due("status(0)", x.status(0), 2);
        for (int n : new int[] {1199, 1190, 1181}) {
            due("end(" + n + ")", x.end(n), true);
            due("feed behind " + n, x.feed(1, 2, 3, 4, 5), NONE);
            due("the tape has what it had", x.end(n + 1), false);
        }
        due("end(1180)", x.end(1180), true);
        due("feed behind 1180", x.feed(0x20202020, 0x20202020, 0x20202020, 0x20202020, 0x20202020), 1200);
        due("wheel() of 1200 blanks", x.wheel(), NONE);
        due("none of what was refused is read", x.fault(1), 1200);
        by("2: Twenty bytes come behind those on the tape, of each number the highest first");
        x = new ShareWheel();
        tapeText(x, "wheel me");
        due("feed behind 8", x.feed(0x72676520, 0x31363B74, 0x68696E67, 0x20612077, 0x65696768), 28);
        due("feed behind 28", x.feed(0x7320353B, 0x20202020, 0x20202020, 0x20202020, 0x80FF0001), 48);
        due("end(32)", x.end(32), true);
        due("wheel()", x.wheel(), 2);
        due("has(1)", x.has(1), 16);
        due("thing(0, 1)", x.thing(0, 1), 5 * 1024);
        x = told(text(2, "9999", "9999", "9999", "9999"));
        due("bytes with their highest bit", store(x, 0x80, 0xFF, 0, 1), 32);
        tapeText(x, " ".repeat(1200 - TIGHT.length()) + TIGHT);
        due("a text of 1200 bytes", x.wheel(), 4);
    }

    private static void cutTape() {
        by("3: false, refused (0), if it has not so many, or n is below 0");
        ShareWheel x = new ShareWheel();
        due("end(0) of an empty tape", x.end(0), true);
        due("end(1) of an empty tape", x.end(1), false);
        due("end(-1) of an empty tape", x.end(-1), false);
        due("status(0)", x.status(0), 2);
        x.feed(1, 2, 3, 4, 5);
        due("end(21) of 20", x.end(21), false);
        due("end(20) of 20", x.end(20), true);
        due("end(-1) of 20", x.end(-1), false);
        dueFar("end", k -> x.end(k) ? 1 : 0, 0);
        due("status(0)", x.status(0), 4 + FAR.length);
        due("what is refused cuts nothing", x.feed(1, 2, 3, 4, 5), 40);
        by("3: The tape has its first n bytes alone");
        due("end(39)", x.end(39), true);
        due("end(40)", x.end(40), false);
        due("end(0)", x.end(0), true);
        due("end(1)", x.end(1), false);
        due("feed behind nothing", x.feed(1, 2, 3, 4, 5), 20);
        tapeText(x, TIGHT + "x");
        due("end() ahead of the x", x.end(TIGHT.length()), true);
        due("wheel()", x.wheel(), 4);
    }

    private static void tapeGoes() {
        by("4: The tape (it goes)");
        ShareWheel x = new ShareWheel();
        due("wheel()", tell(x, ONE), 2);
        dueTapeGone(x);
        due("wheel() with a FAULT", tell(x, ONE + "x"), NONE);
        dueTapeGone(x);
        due("wheel() of what is left", x.wheel(), NONE);
        due("fault(1)", x.fault(1), 0);
        due("status(1)", x.status(1), 2);
    }

    private static void withoutStatement() {
        by("4: one without a STATEMENT has FAULT 1 at its length");
        faulty("", 1, 0);
        faulty(" ", 1, 1);
        faulty("\n", 1, 1);
        faulty(" \n\n  \n", 1, 6);
        faulty(" ".repeat(1199), 1, 1199);
        faulty("\n".repeat(1200), 1, 1200);
        by("4: how many STATEMENTS");
        good("wheel merge 2;", 1);
        good(ONE, 2);
        good(ONE + "team b of a;", 3);
        good(TIGHT, 4);
    }

    private static void firstStatement() {
        by("I: wheel merge N (the first STATEMENT, and it alone)");
        faulty("thing a weighs 1;", 1, 0);
        faulty("team a of b;", 1, 0);
        faulty(";", 1, 0);
        faulty("merge 2;", 1, 0);
        faulty("wheel 2;", 1, 6);
        faulty("wheel merge 2;wheel merge 2;", 1, 14);
        faulty(ONE + "wheel merge 2;", 1, 31);
        faulty(HEAD + ";", 1, 14);
        faulty(ONE + ";", 1, 31);
    }

    private static void faultAsked() {
        by("5: its FAULT (what 0; 0 without, and ahead of any), its place (1; NONE without)");
        ShareWheel x = new ShareWheel();
        due("fault(0) ahead of any", x.fault(0), 0);
        due("fault(1) ahead of any", x.fault(1), NONE);
        tell(x, ONE + "thing a weighs 2;");
        due("fault(0)", x.fault(0), 3);
        due("fault(1)", x.fault(1), 37);
        due("fault(0) asked again", x.fault(0), 3);
        tell(x, "wheel merge 17;");
        due("fault(0) of the latest", x.fault(0), 2);
        due("fault(1) of the latest", x.fault(1), 12);
        tell(x, ONE);
        due("fault(0) of the latest, without", x.fault(0), 0);
        due("fault(1) of the latest, without", x.fault(1), NONE);
        by("5: NONE for another what");
        tell(x, "wheel merge 17;");
        due("fault(2)", x.fault(2), NONE);
        due("fault(-1)", x.fault(-1), NONE);
        dueFar("fault", x::fault, NONE);
    }

    private static void numberToMerge() {
        by("I: wheel merge N (0 .. 16)");
        for (int n = 0; n <= 16; n++) {
            due("the number to merge", told("wheel merge " + n + ";").has(1), n);
        }
        for (String n : new String[] {"17", "18", "20", "99", "0017", "100", "116", "1600", "9999"}) {
            faulty("wheel merge " + n + ";", 2, 12);
        }
        due("0000", told("wheel merge 0000;").has(1), 0);
        due("0016", told("wheel merge 0016;").has(1), 16);
        faulty("wheel merge -1;", 1, 12);
    }

    private static void weighs() {
        by("I: thing NAME weighs N (0 .. 9999)");
        due("0", told(HEAD + "thing a weighs 0;").thing(0, 1), 0);
        due("1", told(HEAD + "thing a weighs 1;").thing(0, 1), 1024);
        due("0000", told(HEAD + "thing a weighs 0000;").thing(0, 1), 0);
        due("9998", told(HEAD + "thing a weighs 9998;").thing(0, 1), MOST - 1024);
        due("9999", told(HEAD + "thing a weighs 9999;").thing(0, 1), MOST);
        faulty(HEAD + "thing a weighs 10000;", 1, 33);
        faulty(HEAD + "thing a weighs -1;", 1, 29);
        faulty(HEAD + "thing a weighs ;", 1, 29);
        faulty(HEAD + "thing a weighs 1.5;", 1, 30);
    }

    private static void parts() {
        by("I: by N (by 1, 2, 4 .. 1024; 1 without)");
        for (int n = 1; n <= 1024; n *= 2) {
            due("9999 by " + n, told(HEAD + "thing a weighs 9999 by " + n + ";").thing(0, 1), MOST / n);
            due("1 by " + n, told(HEAD + "thing a weighs 1 by " + n + ";").thing(0, 0), 1024 / n);
        }
        due("0 by 1024", told(HEAD + "thing a weighs 0 by 1024;").thing(0, 1), 0);
        due("3 by 0002", told(HEAD + "thing a weighs 3 by 0002;").thing(0, 1), 1536);
        due("without", told(HEAD + "thing a weighs 7;").thing(0, 1), 7168);
        for (int n = 0; n <= 9999; n = n < 70 || n > 1020 && n < 1030 ? n + 1 : n + 97) {
            if (n > 1024 || Integer.bitCount(n) != 1) {
                faulty(HEAD + "thing a weighs 1 by " + n + ";", 2, 34);
            }
        }
        faulty(HEAD + "thing a weighs 1 by 2048;", 2, 34);
        faulty(HEAD + "thing a weighs 1 by 4096;", 2, 34);
        faulty(HEAD + "thing a weighs 1 by 8192;", 2, 34);
        faulty(HEAD + "thing a weighs 0 by 0000;", 2, 34);
    }

    private static void digits() {
        by("I: N: 1 to 4 digits; where a number is asked, a 5th digit at itself");
        faulty("wheel merge ;", 1, 12);
        faulty("wheel merge x;", 1, 12);
        faulty("wheel merge 00001;", 1, 16);
        faulty("wheel merge 12345;", 1, 16);
        faulty("wheel merge 123456789;", 1, 16);
        faulty("wheel merge 0000 1;", 1, 17);
        faulty(HEAD + "thing a weighs 00001;", 1, 33);
        faulty(HEAD + "thing a weighs 99999;", 1, 33);
        faulty(HEAD + "thing a weighs 1 by 00001;", 1, 38);
        faulty(HEAD + "thing a weighs 1 by 33333;", 1, 38);
        faulty(HEAD + "thing a weighs 1 by ;", 1, 34);
        due("four digits each", told("wheel merge 0003;thing a weighs 0008 by 0004;").thing(0, 1), 2048);
        due("one digit each", told("wheel merge 3;thing a weighs 8 by 4;").thing(0, 1), 2048);
        by("I: FAULTS: 1 .. numbers whole, at their first byte, where none is asked");
        faulty("12345", 1, 0);
        faulty("wheel 12345 2;", 1, 6);
        faulty("wheel merge 2 12345;", 1, 14);
        faulty(HEAD + "thing 12345 weighs 1;", 1, 20);
    }

    private static void letters() {
        by("I: NAMES: 1 to 6 letters; a 7th letter at itself");
        good(HEAD + "thing z weighs 1;", 2);
        good(HEAD + "thing abcdef weighs 1;team ghijkl of abcdef;", 3);
        faulty(HEAD + "thing abcdefg weighs 1;", 1, 26);
        faulty(HEAD + "thing abcdefghijkl weighs 1;", 1, 26);
        faulty(HEAD + "thing weighst weighs 1;", 1, 26);
        faulty(HEAD + "thing abcdefg", 1, 26);
        faulty(ONE + "team abcdefg of a;", 1, 42);
        faulty(ONE + "team b of abcdefg;", 1, 47);
        faulty(HEAD + "thing abcdef weighs 1;team b of abcdef,abcdefg;", 1, 59);
        faulty(HEAD + "thing weighs 1;", 1, 20);
        faulty(HEAD + "thing ; weighs 1;", 1, 20);
        faulty(HEAD + "thing 1 weighs 1;", 1, 20);
        faulty(HEAD + "thing a1 weighs 1;", 1, 21);
        faulty(ONE + "team of a;", 1, 36);
        faulty(ONE + "team , of a;", 1, 36);
        for (char c : new char[] {'`', '{', 'A', 'Z', '@', '[', '_', (char) 225}) {
            faulty(HEAD + "thing " + c + " weighs 1;", 1, 20);
            faulty(HEAD + "thing a" + c + " weighs 1;", 1, 21);
        }
    }

    private static void ownWords() {
        by("I: no OWN WORD; where a NAME is asked, an OWN WORD so");
        for (String own : OWN_WORDS) {
            faulty(HEAD + "thing " + own + " weighs 1;", 1, 20);
            faulty(ONE + "team " + own + " of a;", 1, 36);
            faulty(ONE + "team b of " + own + ";", 1, 41);
            faulty(ONE + "team b of a," + own + ";", 1, 43);
            faulty(HEAD + "thing " + own, 1, 20);
            String less = own.substring(0, own.length() - 1);
            good(HEAD + "thing " + less + " weighs 1;team x of " + less + ";", 3);
            if (own.length() < 6) {
                good(HEAD + "thing " + own + "s weighs 1;team x" + own + " of " + own + "s;", 3);
            }
        }
    }

    private static void unlikeNames() {
        by("I: 3 a NAME to be given that is there already (of a THING, a TEAM), at it");
        faulty(ONE + "thing a weighs 2;", 3, 37);
        faulty(ONE + "team a of a;", 3, 36);
        faulty(ONE + "team b of a;thing b weighs 1;", 3, 49);
        faulty(ONE + "team b of a;team b of a;", 3, 48);
        faulty(HEAD + "thing abcdef weighs 1;thing abcdef weighs 1;", 3, 42);
        faulty(ONE + "thing a", 3, 37);
        faulty(ONE + "thing a1", 3, 37);
        faulty(ONE + "team a", 3, 36);
        good(HEAD + "thing a weighs 1;thing aa weighs 1;thing ab weighs 1;thing b weighs 1;team ba of a;", 6);
        good(HEAD + "thing abcdef weighs 1;thing abcdeg weighs 1;thing abcde weighs 1;thing bcdef weighs 1;", 5);
        String last = HEAD;
        for (char c = 'a'; c < 'q'; c++) {
            last = last + "thing " + c + " weighs 1;";
        }
        faulty(last + "team p of a;", 3, last.length() + 5);
        faulty(last + "team q of a;team r of a;team s of a;team s of a;", 3, last.length() + 41);
    }

    private static void sixteenThings() {
        by("I: 16 THINGS; 5 a 17th thing, at that word");
        String most = sixteen(2, "1");
        int n = most.length();
        good(most, 17);
        due("has(0)", told(most).has(0), 16);
        due("letter(15, 0)", told(most).letter(15, 0), 16);
        faulty(most + "thing q weighs 1;", 5, n);
        faulty(most + " \nthing q weighs 1;", 5, n + 2);
        faulty(most + "thing", 5, n);
        faulty(most + "thing a weighs 1;", 5, n);
        faulty(most + "thing of weighs 1;", 5, n);
        faulty(most + "thing 1;", 5, n);
        faulty(most + "thin q weighs 1;", 1, n);
        faulty(most + "things q weighs 1;", 1, n);
        faulty(most + "team q of a;thing r weighs 1;", 5, n + 12);
        good(most + "team q of p;", 18);
        String fifteen = most.substring(0, n - 17);
        due("fifteen", told(fifteen).has(0), 15);
        due("fifteen and another", told(fifteen + "thing q weighs 1;").has(0), 16);
    }

    private static void fourTeams() {
        by("I: 4 TEAMS; 5 a 5th team, at that word");
        String most = ONE + "team b of a;team c of a;team d of a;team e of a;";
        int n = most.length();
        good(most, 6);
        ShareWheel x = told(most);
        due("team(3, 0)", x.team(3, 0), 1);
        due("called(3, 0)", x.called(3, 0), 5);
        due("team(4, 0)", x.team(4, 0), NONE);
        due("called(4, 0)", x.called(4, 0), NONE);
        faulty(most + "team f of a;", 5, n);
        faulty(most + "\n team f of a;", 5, n + 2);
        faulty(most + "team", 5, n);
        faulty(most + "team a of z;", 5, n);
        faulty(most + "teams f of a;", 1, n);
        good(most + "thing f weighs 1;", 7);
        faulty(most + "thing f weighs 1;team g of a;", 5, n + 17);
    }

    private static void namesInTeams() {
        by("I: 3 a NAME that is none of a THING where that is asked, or in the TEAM already, at it");
        faulty(HEAD + "team b of a;", 3, 24);
        faulty(ONE + "team b of c;", 3, 41);
        faulty(ONE + "team b of b;", 3, 41);
        faulty(ONE + "team b of a;team c of b;", 3, 53);
        faulty(ONE + "team b of c;thing c weighs 1;", 3, 41);
        faulty(ONE + "team b of a,a;", 3, 43);
        faulty(ONE + "thing c weighs 1;team b of a,c,a;", 3, 62);
        faulty(ONE + "thing c weighs 1;team b of c , a , c;", 3, 66);
        faulty(ONE + "team b of a,z;", 3, 43);
        faulty(ONE + "team b of z", 3, 41);
        faulty(ONE + "team b of aa;", 3, 41);
        String most = sixteen(2, "1");
        String all = most + "team t of p,o,n,m,l,k,j,i,h,g,f,e,d,c,b,a";
        due("all sixteen", told(all + ";").team(0, 0), 65535);
        faulty(all + ",a;", 3, all.length() + 1);
        faulty(all + ",p;", 3, all.length() + 1);
        faulty(all + ",q;", 3, all.length() + 1);
        faulty(all + ",;", 1, all.length() + 1);
        by("I: team NAME of NAME { , NAME }: one at least");
        faulty(ONE + "team b of ;", 1, 41);
        faulty(ONE + "team b;", 1, 37);
        faulty(ONE + "team b of ,a;", 1, 41);
        faulty(ONE + "team b of a,;", 1, 43);
        faulty(ONE + "team b of a,,a;", 1, 43);
        faulty(ONE + "team b of a a;", 1, 43);
    }

    private static void numbered() {
        by("I: numbered from 0 on as told; TEAMS likewise");
        ShareWheel x = told(HEAD + "thing c weighs 3;team z of c;thing a weighs 1;team y of a,c;thing b weighs 2;");
        due("letter(0, 0)", x.letter(0, 0), 3);
        due("letter(1, 0)", x.letter(1, 0), 1);
        due("letter(2, 0)", x.letter(2, 0), 2);
        due("thing(0, 1)", x.thing(0, 1), 3072);
        due("thing(2, 1)", x.thing(2, 1), 2048);
        due("called(0, 0)", x.called(0, 0), 26);
        due("called(1, 0)", x.called(1, 0), 25);
        due("team(0, 0)", x.team(0, 0), 1);
        due("team(1, 0)", x.team(1, 0), 3);
    }

    private static void blanks() {
        by("I: Blanks (10, 32) are where one likes");
        String[] words = {"wheel", "merge", "2", ";", "thing", "a", "weighs", "1", "by", "2", ";", "thing", "c",
            "weighs", "3", ";", "team", "b", "of", "a", ",", "c", ";"};
        for (String blank : new String[] {" ", "\n", "  ", "\n\n", " \n "}) {
            good(blank + String.join(blank, words) + blank, 4);
        }
        good(TIGHT, 4);
        by("I: other bytes are no blanks");
        for (int sign : new int[] {0, 1, 9, 11, 12, 13, 31, 33, 58, 127, 160, 255}) {
            StringBuilder text = new StringBuilder();
            for (int i = 0; i < words.length; i++) {
                if (i > 0) {
                    faulty(text.toString() + (char) sign + " " + words[i], 1, text.length());
                }
                text.append(words[i]).append(i % 2 == 0 ? " " : "\n");
            }
            faulty(text.toString() + (char) sign, 1, text.length());
        }
    }

    private static void sideBySide() {
        by("I: words and numbers side by side need one");
        faulty("wheelmerge 2;", 1, 0);
        faulty("wheel merge2;", 1, 11);
        faulty(HEAD + "thinga weighs 1;", 1, 14);
        faulty(HEAD + "thing aweighs 1;", 1, 26);
        faulty(HEAD + "thing a weighs1;", 1, 28);
        faulty(HEAD + "thing a weighs 1by 2;", 1, 30);
        faulty(HEAD + "thing a weighs 1 by2;", 1, 33);
        faulty(HEAD + "thing a weighs 1by2;", 1, 30);
        faulty(HEAD + "thing a weighs 1234by 2;", 1, 33);
        faulty(ONE + "teamb of a;", 1, 31);
        faulty(ONE + "team bof a;", 1, 40);
        faulty(ONE + "team b ofa;", 1, 38);
    }

    private static void endsTooSoon() {
        by("I: 1 .. at the text's length, if it ends too soon");
        String text = "wheel merge 16;thing ab weighs 12 by 4;team cd of ab;";
        // Where a word that is cut short begins, as it is none then; NONE where the text may end.
        int[] place = new int[text.length()];
        for (int n = 0; n < place.length; n++) {
            place[n] = n;
        }
        cut(place, 1, 4, 0);
        cut(place, 7, 10, 6);
        place[15] = NONE;
        cut(place, 16, 19, 15);
        cut(place, 25, 29, 24);
        cut(place, 35, 35, 34);
        place[39] = NONE;
        cut(place, 40, 42, 39);
        cut(place, 48, 48, 47);
        for (int n = 0; n < place.length; n++) {
            if (place[n] == NONE) {
                good(text.substring(0, n), n == 15 ? 1 : 2);
            } else if (n == 51) {
                // a, of ab, is a NAME, but none of a THING.
                faulty(text.substring(0, n), 3, 50);
            } else {
                faulty(text.substring(0, n), 1, place[n]);
            }
            if (place[n] == n && n != 51) {
                faulty(text.substring(0, n) + " ", 1, n + 1);
                faulty(text.substring(0, n) + "\n \n", 1, n + 3);
            }
        }
        good(text, 3);
        faulty(text + "thing", 1, text.length() + 5);
        faulty(" ".repeat(1200 - 13) + "wheel merge 2", 1, 1200);
    }

    private static void cut(int[] place, int from, int to, int begin) {
        for (int n = from; n <= to; n++) {
            place[n] = begin;
        }
    }

    private static void wholeWords() {
        by("I: 1 .. words whole, at their first byte");
        faulty("wheels merge 2;", 1, 0);
        faulty("whee merge 2;", 1, 0);
        faulty("Wheel merge 2;", 1, 0);
        faulty("wheel merger 2;", 1, 6);
        faulty("wheel mergx 2;", 1, 6);
        faulty("wheel m 2;", 1, 6);
        faulty(HEAD + "thinx a weighs 1;", 1, 14);
        faulty(HEAD + "abcdefghij a weighs 1;", 1, 14);
        faulty(HEAD + "a weighs 1;", 1, 14);
        faulty(HEAD + "thing a weight 1;", 1, 22);
        faulty(HEAD + "thing a weighsx 1;", 1, 22);
        faulty(HEAD + "thing a by 1;", 1, 22);
        faulty(HEAD + "thing a b weighs 1;", 1, 22);
        faulty(HEAD + "thing a weighs weighs 1;", 1, 29);
        faulty(HEAD + "thing a weighs 1 bye 2;", 1, 31);
        faulty(HEAD + "thing a weighs 1 b 2;", 1, 31);
        faulty(HEAD + "thing a weighs 1 of 2;", 1, 31);
        faulty(HEAD + "thing a weighs 1 by by 2;", 1, 34);
        faulty(HEAD + "thing a weighs 1 by 2 by 2;", 1, 36);
        faulty(HEAD + "thing a weighs 1 2;", 1, 31);
        faulty(ONE + "team b off a;", 1, 38);
        faulty(ONE + "team b a;", 1, 38);
        faulty(ONE + "team b of a of a;", 1, 43);
        by("I: 1 .. words whole: each of their letters");
        for (String own : OWN_WORDS) {
            for (int i = 0; i < own.length(); i++) {
                String other = own.substring(0, i) + "x" + own.substring(i + 1);
                int at = TIGHT.indexOf(own);
                faulty(TIGHT.substring(0, at) + other + TIGHT.substring(at + own.length()), 1, at);
                good(HEAD + "thing " + other + " weighs 1;team xx of " + other + ";", 3);
            }
        }
    }

    private static void firstAlongTheText() {
        by("I: FAULTS, the first along the text");
        faulty("wheel merge 17 thing", 2, 12);
        faulty("wheel merge 17", 2, 12);
        faulty("wheel merg 17;", 1, 6);
        faulty("wheel merge 2:thing a weighs 1;thing a weighs 1;", 1, 13);
        faulty(ONE + "thing a weigh 1;", 3, 37);
        faulty(ONE + "thing b weigh 1;thing a weighs 1;", 1, 39);
        faulty(HEAD + "thing a weighs 1 by 3 of", 2, 34);
        faulty(HEAD + "thing a weighs 1 by 3", 2, 34);
        faulty(ONE + "team a of z;", 3, 36);
        faulty(ONE + "team b of z,a,a,", 3, 41);
        faulty(ONE + "team b oof z;", 1, 38);
        faulty(sixteen(17, "1") + "thing q weighs 1;", 2, 12);
        faulty(sixteen(2, "1 by 3") + "thing q weighs 1;", 2, 34);
    }

    private static void lettersAsked() {
        ShareWheel x = told(HEAD + "thing azbycx weighs 1;thing q weighs 1;team mnopqr of q;team z of q;");
        by("7: Letter k (0 .. 5) of the NAME of a THING: 1 .. 26; 0 behind it");
        int[] most = {1, 26, 2, 25, 3, 24};
        for (int k = 0; k < 6; k++) {
            due("letter(0, " + k + ")", x.letter(0, k), most[k]);
            due("letter(1, " + k + ")", x.letter(1, k), k == 0 ? 17 : 0);
        }
        by("7: NONE when there is none such");
        due("letter(0, 6)", x.letter(0, 6), NONE);
        due("letter(0, -1)", x.letter(0, -1), NONE);
        due("letter(1, 6)", x.letter(1, 6), NONE);
        due("letter(2, 0)", x.letter(2, 0), NONE);
        due("letter(-1, 0)", x.letter(-1, 0), NONE);
        dueFar("letter(.., 0)", k -> x.letter(k, 0), NONE);
        dueFar("letter(0, ..)", k -> x.letter(0, k), NONE);
        due("letter(0, 0) without a wheel", new ShareWheel().letter(0, 0), NONE);
        by("21: Letter k (0 .. 5) of the NAME of a TEAM: 1 .. 26; 0 behind it");
        for (int k = 0; k < 6; k++) {
            due("called(0, " + k + ")", x.called(0, k), 13 + k);
            due("called(1, " + k + ")", x.called(1, k), k == 0 ? 26 : 0);
        }
        by("21: NONE when there is none such");
        due("called(0, 6)", x.called(0, 6), NONE);
        due("called(0, -1)", x.called(0, -1), NONE);
        due("called(2, 0)", x.called(2, 0), NONE);
        due("called(-1, 0)", x.called(-1, 0), NONE);
        dueFar("called(.., 0)", k -> x.called(k, 0), NONE);
        dueFar("called(0, ..)", k -> x.called(0, k), NONE);
        due("called(0, 0) without a wheel", new ShareWheel().called(0, 0), NONE);
        due("called(0, 0) without a TEAM", told(ONE).called(0, 0), NONE);
    }

    private static void anotherWheel() {
        by("4: Without one nothing is STORED, SEEN, counted, or can be undone; the seed stays");
        ShareWheel x = told(TIGHT);
        store(x, 1, 2, 3);
        x.pick(1);
        x.chance(4, 1);
        set(x, 0, 4);
        x.merged();
        see(x, 0, 0, 0);
        set(x, 1, Double.NaN);
        x.image();
        int seed = x.has(14);
        int octet = x.octet(4);
        due("wheel() of fewer", tell(x, "wheel merge 5;thing z weighs 7;"), 2);
        int[] want = {1, 5, 7168, 7168, 0, 0, 7168, 0, 0, 0, 0, 0, 0, 0, seed};
        for (int what = 0; what < 15; what++) {
            due("has(" + what + ")", x.has(what), want[what]);
        }
        due("thing(0, 4)", x.thing(0, 4), 0);
        due("thing(1, 0)", x.thing(1, 0), NONE);
        due("team(0, 0)", x.team(0, 0), NONE);
        due("called(0, 0)", x.called(0, 0), NONE);
        due("fits(NONE)", x.fits(NONE), NONE);
        due("tells(0)", x.tells(0), NONE);
        due("undo()", x.undo(), false);
        due("pick(1)", x.pick(1), 0);
        due("why(0) stays", x.why(0), 2);
        due("octet(4) stays", x.octet(4), octet);
        by("I: NAMES of a wheel ahead, or of a text with a FAULT, are free");
        x = told(ONE + "team b of a;");
        due("a THING's for a TEAM, a TEAM's for a THING", tell(x, HEAD + "thing b weighs 1;team a of b;"), 3);
        due("behind a FAULT", tell(x, HEAD + "thing c weighs 1;team d of c;x"), NONE);
        due("behind a FAULT", tell(x, HEAD + "thing d weighs 1;thing c weighs 1;team a of d;"), 4);
        due("no THING any more", tell(x, HEAD + "thing z weighs 1;team y of d;"), NONE);
        due("fault(0)", x.fault(0), 3);
        by("1: No wheel, no things; the seed is 1");
        x = new ShareWheel();
        due("has(14)", x.has(14), 1);
        due("has(0)", x.has(0), 0);
        due("a wheel leaves the seed", told(ONE).has(14), 1);
    }
}
