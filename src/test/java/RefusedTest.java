import java.util.ArrayList;
import java.util.Arrays;
import java.util.List;
import java.util.function.Supplier;
import java.util.function.ToLongFunction;

/**
 * Every call that is refused, beside a twin that was not asked: all that can be asked then is the same, but for what
 * status() counts, and for what the document says goes. What answers NONE without being refused is not counted.
 */
public final class RefusedTest extends Desk {
    private static final int CHUNK = 150;
    private static final List<Question> QUESTIONS = new ArrayList<>();

    /** A question that may change the object is the last one that this object is asked. */
    private record Question(String name, ToLongFunction<ShareWheel> ask, boolean last) {
    }

    public static void main(String[] args) {
        makeQuestions();
        feedAndEnd();
        wheel();
        setRefused();
        pickAndChance();
        mergeAndMerged();
        store();
        undo();
        seedSeeOn();
        takenAreNotCounted();
        askedAreNotCounted();
        statusAsked();
        close("RefusedTest");
    }

    // ---- what can be asked

    private static void ask(String name, ToLongFunction<ShareWheel> ask) {
        QUESTIONS.add(new Question(name, ask, false));
    }

    private static void askLast(String name, ToLongFunction<ShareWheel> ask) {
        QUESTIONS.add(new Question(name, ask, true));
    }

    private static void makeQuestions() {
        for (int i = 0; i < 15; i++) {
            int what = i;
            ask("has(" + i + ")", x -> x.has(what));
        }
        for (int i = 0; i < 6; i++) {
            int what = i;
            ask("status(" + i + ")", x -> x.status(what));
        }
        for (int i = 0; i < 2; i++) {
            int what = i;
            ask("fault(" + i + ")", x -> x.fault(what));
            ask("why(" + i + ")", x -> x.why(what));
            ask("tells(" + i + ")", x -> x.tells(what));
            ask("creditor(" + i + ")", x -> x.creditor(what));
            ask("goes(" + i + ")", x -> x.goes(what));
            ask("quorum(1, 2, " + i + ")", x -> x.quorum(1, 2, what));
        }
        for (int t = 0; t < 4; t++) {
            int thing = t;
            askOfThing(thing);
            for (int i = 0; i < 5; i++) {
                int what = i;
                ask("thing(" + t + ", " + i + ")", x -> x.thing(thing, what));
            }
        }
        for (int k = NONE; k < 22; k++) {
            int place = k;
            ask("octet(" + k + ")", x -> x.octet(place));
            ask("fits(" + k + ")", x -> x.fits(place));
        }
        askLast("how much is on the tape", RefusedTest::tapeLength);
        askLast("all ACTS undone", RefusedTest::undoAll);
        askLast("PICKS by all bits STORED", RefusedTest::pickAll);
        askLast("an image", RefusedTest::wholeImage);
        askLast("chance(7, 0)", x -> x.chance(7, 0) * 1000000L + x.has(14));
    }

    private static void askOfThing(int t) {
        ask("letter(" + t + ", 0)", x -> x.letter(t, 0));
        ask("called(" + t + ", 0)", x -> x.called(t, 0));
        ask("weight(" + t + ")", x -> x.weight(t));
        ask("mass(" + t + ")", x -> x.mass(t));
        ask("rank(" + t + ")", x -> x.rank(t));
        ask("owed(" + t + ")", x -> x.owed(t));
        ask("swings(" + t + ", 1, 2)", x -> x.swings(t, 1, 2));
        ask("merges(" + t + ", 5)", x -> x.merges(t, 5));
        ask("rows(0, 9, " + t + ")", x -> x.rows(0, 9, t));
        for (int i = 0; i < 3; i++) {
            int what = i;
            ask("column(" + t + ", " + i + ")", x -> x.column(t, what));
            ask("share(" + t + ", " + i + ")", x -> x.share(t, what));
            ask("band(" + t + ", " + i + ")", x -> x.band(t, what));
            ask("team(" + t + ", " + i + ")", x -> x.team(t, what));
        }
    }

    private static long tapeLength(ShareWheel x) {
        int fed = x.feed(0, 0, 0, 0, 0);
        for (int n = 1200; n > 1180 && fed == NONE; n--) {
            fed = x.end(n) ? n + 20 : NONE;
        }
        return fed - 20;
    }

    private static long mixed(long sum, long answer) {
        return sum * 1000003L + answer;
    }

    private static long undoAll(ShareWheel x) {
        long sum = 0;
        for (int i = 0; i < 21; i++) {
            sum = mixed(sum, x.undo() ? 1 : 0);
            for (int what : new int[] {1, 2, 3, 7, 8, 9, 10, 11, 13}) {
                sum = mixed(sum, x.has(what));
            }
        }
        return sum;
    }

    private static long pickAll(ShareWheel x) {
        long sum = 0;
        for (int i = 0; i < 100; i++) {
            sum = mixed(sum, x.pick(i % 3));
        }
        return mixed(sum, x.has(9));
    }

    private static long wholeImage(ShareWheel x) {
        long sum = x.image();
        for (int k = 0; k < 35; k++) {
            sum = mixed(sum, x.octet(k));
        }
        return sum;
    }

    // ---- objects to ask

    private static ShareWheel bare() {
        ShareWheel x = new ShareWheel();
        x.seed(12);
        return x;
    }

    private static ShareWheel empty() {
        return told("wheel merge 3;");
    }

    private static ShareWheel weightless() {
        ShareWheel x = told(text(3, "0", "0") + "team t of b;");
        Desk.store(x, 1, 2, 3);
        see(x, 0, 0, 0);
        x.image();
        return x;
    }

    /** All that there can be, and a wheel() with a FAULT, a set() that was REFUSED behind it. */
    private static ShareWheel rich() {
        ShareWheel x = told(text(3, "4", "3", "2", "0") + "team t of b;team u of a,c;");
        Desk.store(x, 0x1B, 0x2C, 0x3D, 0x4E, 0x5F, 0x60);
        x.pick(1);
        x.pick(0);
        x.chance(4, 2);
        Desk.set(x, 0, 3.5);
        Desk.set(x, 3, 1);
        x.merged();
        Desk.set(x, 1, 2.25);
        x.merge(5);
        see(x, 1, 0x20, 0, 0xC0, 255);
        x.image();
        tell(x, "wheel merge 3;thing a weighs 1 by 3;");
        Desk.set(x, 0, PART / 2);
        return x;
    }

    /** As many ACTS as can be undone. */
    private static ShareWheel full() {
        ShareWheel x = rich();
        for (int i = 0; i < 20; i++) {
            Desk.set(x, 2, 100 + i);
        }
        return x;
    }

    private static final List<Supplier<ShareWheel>> WHEELS =
            List.of(RefusedTest::empty, RefusedTest::weightless, RefusedTest::rich, RefusedTest::full);
    private static final List<Supplier<ShareWheel>> ALL = List.of(RefusedTest::bare, RefusedTest::empty,
            RefusedTest::weightless, RefusedTest::rich, RefusedTest::full);

    /**
     * The call answers so, and leaves all as it was but for questions whose names begin so; the count of its kind is
     * one more, or as it was (kind NONE).
     */
    private static void leaves(Supplier<ShareWheel> make, String name, ToLongFunction<ShareWheel> call, long want,
            int kind, String... but) {
        List<Question> some = new ArrayList<>();
        for (Question q : QUESTIONS) {
            if (Arrays.stream(but).noneMatch(b -> q.name.startsWith(b))) {
                some.add(q);
            }
        }
        ShareWheel asked = null;
        ShareWheel twin = null;
        for (int i = 0; i < some.size(); i++) {
            Question q = some.get(i);
            if (i % CHUNK == 0 || q.last) {
                asked = make.get();
                twin = make.get();
                due(name, call.applyAsLong(asked), want);
            }
            long counted = q.name.equals("status(" + kind + ")") ? 1 : 0;
            due(q.name + " behind " + name, q.ask.applyAsLong(asked), q.ask.applyAsLong(twin) + counted);
        }
    }

    private static void refused(List<Supplier<ShareWheel>> from, String name, ToLongFunction<ShareWheel> call,
            int kind, String... but) {
        long want = name.startsWith("end") || name.startsWith("merge") || name.startsWith("undo")
                || name.startsWith("seed") || name.startsWith("on") ? 0 : NONE;
        for (Supplier<ShareWheel> make : from) {
            leaves(make, name, call, want, kind, but);
        }
    }

    private static List<Supplier<ShareWheel>> only(Supplier<ShareWheel> make) {
        return List.of(make);
    }

    private static long whether(boolean answer) {
        return answer ? 1 : 0;
    }

    // ---- the calls

    /** With so many bytes on the tape, of which each is another. */
    private static Supplier<ShareWheel> withTape(Supplier<ShareWheel> make, int bytes) {
        return () -> {
            ShareWheel x = make.get();
            int[] tape = new int[bytes];
            for (int i = 0; i < bytes; i++) {
                tape[i] = i & 255;
            }
            tape(x, tape);
            return x;
        };
    }

    private static void feedAndEnd() {
        by("2, 49: feed() that is refused counts 0, and leaves all");
        for (Supplier<ShareWheel> make : ALL) {
            refused(only(withTape(make, 1200)), "feed() behind 1200", x -> x.feed(1, 2, 3, 4, 5), 0);
        }
        refused(only(withTape(RefusedTest::rich, 1181)), "feed() behind 1181", x -> x.feed(1, 2, 3, 4, 5), 0);
        by("3, 49: end() that is refused counts 0, and leaves all");
        refused(ALL, "end(1) of none", x -> whether(x.end(1)), 0);
        refused(ALL, "end(-1)", x -> whether(x.end(-1)), 0);
        refused(only(withTape(RefusedTest::rich, 37)), "end(38) of 37", x -> whether(x.end(38)), 0);
        refused(only(withTape(RefusedTest::rich, 1200)), "end(1201)", x -> whether(x.end(1201)), 0);
        by("2, 3: the bytes stay as they are");
        ShareWheel x = new ShareWheel();
        tapeText(x, " ".repeat(1186) + "wheel merge 7;");
        x.feed(0x78787878, 0x78787878, 0x78787878, 0x78787878, 0x78787878);
        x.end(1201);
        x.end(-1);
        due("wheel()", x.wheel(), 1);
        due("status(0)", x.status(0), 3);
    }

    private static void wheel() {
        by("4, 49: wheel() with a FAULT counts 1, and leaves all; the tape goes");
        String[] texts = {"", " ", "wheel", "wheel merge 17;", "wheel merge 3;thing a weighs 1;thing a weighs 1;",
            "wheel merge 3;thing z weighs 9;team y of z;x", sixteen(9, "7") + "thing q weighs 1;",
            "wheel merge 3;thing z weighs 9;team b of z;team c of z;team d of z;team e of z;team f of z;"};
        for (String text : texts) {
            refused(ALL, "wheel() of '" + text + "'", x -> tell(x, text), 1, "fault");
        }
    }

    private static void setRefused() {
        by("37, 49: set() that is REFUSED counts 2, and leaves all but why()");
        double[] weights = {Double.NaN, Double.POSITIVE_INFINITY, -1, 9999 + PART, 1e300, 1.5 * PART, PART / 4};
        for (double weight : weights) {
            refused(ALL, "set(0, " + weight + ")", x -> Desk.set(x, 0, weight), 2, "why");
        }
        refused(only(RefusedTest::rich), "set(0, 3.5), as it is", x -> Desk.set(x, 0, 3.5), 2, "why");
        refused(only(RefusedTest::weightless), "set(0, -0.0), as it is", x -> Desk.set(x, 0, -0.0), 2, "why");
        refused(ALL, "set(-1, 1)", x -> Desk.set(x, -1, 1), 2, "why");
        refused(ALL, "set(4, 1)", x -> Desk.set(x, 4, 1), 2, "why");
    }

    private static void pickAndChance() {
        by("42, 49: pick() that is refused counts 2, and leaves all");
        refused(ALL, "pick(3)", x -> x.pick(3), 2);
        refused(ALL, "pick(-1)", x -> x.pick(-1), 2);
        by("43, 49: chance() that is refused counts 2, and leaves all");
        refused(ALL, "chance(0, 1)", x -> x.chance(0, 1), 2);
        refused(ALL, "chance(61, 1)", x -> x.chance(61, 1), 2);
        refused(ALL, "chance(5, 3)", x -> x.chance(5, 3), 2);
        refused(ALL, "chance(5, -1)", x -> x.chance(5, -1), 2);
        List<Supplier<ShareWheel>> noTotal =
                List.of(RefusedTest::bare, RefusedTest::empty, RefusedTest::weightless);
        for (int k = 0; k < 3; k++) {
            int way = k;
            refused(noTotal, "pick(" + way + ") without a TOTAL", x -> x.pick(way), 2);
            refused(noTotal, "chance(1, " + way + ") without a TOTAL", x -> x.chance(1, way), 2);
        }
        by("II: a PICK that is OPEN leaves all, and is not refused");
        Supplier<ShareWheel> few = () -> {
            ShareWheel x = rich();
            for (int i = 0; i < 30 && x.has(9) > 3; i++) {
                x.pick(1);
            }
            return x;
        };
        for (int k = 0; k < 3; k++) {
            int way = k;
            leaves(few, "pick(" + way + ") by few bits", x -> x.pick(way), OPEN, NONE);
        }
    }

    private static void mergeAndMerged() {
        by("39, 49: merge() that is refused counts 3, and leaves all");
        refused(ALL, "merge(17)", x -> whether(x.merge(17)), 3);
        refused(ALL, "merge(-1)", x -> whether(x.merge(-1)), 3);
        refused(ALL, "merge() of the number that it is", x -> whether(x.merge(x.has(1))), 3);
        refused(only(RefusedTest::bare), "merge(5) without a wheel", x -> whether(x.merge(5)), 3);
        by("40, 49: merged() that is refused counts 3, and leaves all");
        refused(List.of(RefusedTest::bare, RefusedTest::empty, RefusedTest::weightless), "merged()",
                x -> whether(x.merged()), 3);
        Supplier<ShareWheel> alike = () -> {
            ShareWheel x = rich();
            x.merged();
            return x;
        };
        refused(only(alike), "merged() again", x -> whether(x.merged()), 3);
    }

    private static void store() {
        by("41, 49: store() that is refused counts 3, and leaves all; the tape goes");
        refused(ALL, "store() of none", x -> x.store(), 3);
        refused(ALL, "store() of too much", x -> Desk.store(x, alike(401, 0x3C)), 3);
        refused(only(RefusedTest::bare), "store() without a wheel", x -> Desk.store(x, 1), 3);
        refused(List.of(RefusedTest::weightless, RefusedTest::rich), "store() of too much behind others",
                x -> Desk.store(x, alike(400, 0x3C)), 3);
    }

    private static void undo() {
        by("44, 49: undo() that is refused counts 4, and leaves all");
        refused(List.of(RefusedTest::bare, RefusedTest::empty), "undo()", x -> whether(x.undo()), 4);
        Supplier<ShareWheel> undone = () -> {
            ShareWheel x = rich();
            while (x.undo()) {
                due("an ACT less", x.has(13) < 20, true);
            }
            return x;
        };
        refused(only(undone), "undo() of none left", x -> whether(x.undo()), 4);
    }

    private static void seedSeeOn() {
        by("45, 49: seed() that is refused counts 5, and leaves all");
        refused(ALL, "seed(-1)", x -> whether(x.seed(-1)), 5);
        refused(ALL, "seed() of the least int", x -> whether(x.seed(Integer.MIN_VALUE)), 5);
        by("34, 49: see() that is refused counts 5, and leaves all; the tape goes");
        refused(ALL, "see() of none", x -> see(x, 0), 5);
        refused(ALL, "see() of half a row", x -> see(x, 0, 0, 0, 0), 5);
        refused(ALL, "see() of 21 rows", x -> see(x, 0, alike(42, 0)), 5);
        refused(ALL, "see() of a wrong THING", x -> see(x, 0, 0, 4), 5);
        refused(ALL, "see(-1)", x -> see(x, -1, 0, 0), 5);
        refused(ALL, "see(4)", x -> see(x, 4, 0, 0), 5);
        by("48, 49: on() that is refused counts 5, and leaves all; the tape goes");
        refused(ALL, "on() of none", x -> whether(x.on()), 5);
        refused(ALL, "on() of too many to merge", x -> whether(on(x, image(17, new int[2 * x.has(0)]))), 5);
        refused(ALL, "on() of another wheel", x -> whether(on(x, image(3, new int[2 * x.has(0) + 2]))), 5);
        refused(WHEELS, "on() by another check", x -> {
            int[] bytes = image(3, new int[2 * x.has(0)]);
            bytes[bytes.length - 1]++;
            return whether(on(x, bytes));
        }, 5);
        refused(only(RefusedTest::rich), "on() of too much", x -> whether(
                on(x, image(3, 1, 1, 1, 1, 1, 1, 1, MOST + 1))), 5);
        refused(only(RefusedTest::bare), "on() without a wheel", x -> whether(on(x, image(0))), 5);
    }

    // ---- what is not counted

    private static void takenAreNotCounted() {
        by("49: How many were refused: those that were not are not counted");
        ShareWheel x = rich();
        int[] counted = new int[6];
        for (int what = 0; what < 6; what++) {
            counted[what] = x.status(what);
        }
        x.feed(1, 2, 3, 4, 5);
        x.end(20);
        x.end(0);
        due("store()", Desk.store(x, 0, 0, 0) > 0, true);
        due("pick(1)", x.pick(1) >= 0, true);
        due("chance(60, 2)", x.chance(60, 2) >= 0, true);
        due("set()", Desk.set(x, 0, 9999), MOST);
        due("merge(9)", x.merge(9), true);
        due("undo()", x.undo(), true);
        due("merged()", x.merged(), true);
        due("seed(4)", x.seed(4), true);
        due("see()", see(x, 0, 0, 255), 1);
        due("on()", on(x, image(3, 1, 2, 3, 4, 5, 6, 7, 8)), true);
        due("pick(1) without bits", x.pick(1), OPEN);
        due("wheel()", tell(x, text(1, "1")), 2);
        for (int what = 0; what < 6; what++) {
            due("status(" + what + ")", x.status(what), counted[what]);
        }
    }

    /** Questions are not refused, whatever they are asked, and change nothing; those that have a tape take it. */
    private static void askedAreNotCounted() {
        by("49: questions that answer NONE are not refused, and leave all");
        List<Question> wrong = new ArrayList<>();
        for (int bad : new int[] {-3, 99, Integer.MIN_VALUE, Integer.MAX_VALUE}) {
            wrong.addAll(wrongQuestions(bad));
        }
        for (Supplier<ShareWheel> make : ALL) {
            leaves(make, "wrong questions", x -> askAll(x, wrong), 0, NONE);
        }
        by("49: tries(), triesIn(), deals() take the tape, and leave all else");
        for (Supplier<ShareWheel> make : ALL) {
            for (int k = 0; k < 4; k++) {
                int call = k;
                leaves(make, "a call by the tape", x -> {
                    tape(x, alike(call == 3 ? 101 : 9, 0x35));
                    long answer = call == 0 ? x.tries(0, 0) : call == 1 ? x.triesIn(0, 0) : x.deals(call);
                    return answer >= OPEN ? 0 : 1;
                }, 0, NONE);
            }
        }
    }

    private static List<Question> wrongQuestions(int bad) {
        List<Question> some = new ArrayList<>();
        some.add(new Question("fault", x -> x.fault(bad), false));
        some.add(new Question("has", x -> x.has(bad), false));
        some.add(new Question("letter", x -> x.letter(bad, 0), false));
        some.add(new Question("thing", x -> x.thing(0, bad), false));
        some.add(new Question("weight", x -> x.weight(bad), false));
        some.add(new Question("column", x -> x.column(bad, 0), false));
        some.add(new Question("mass", x -> x.mass(bad), false));
        some.add(new Question("rank", x -> x.rank(bad), false));
        some.add(new Question("share", x -> x.share(bad, 0), false));
        some.add(new Question("goes", x -> x.goes(bad), false));
        some.add(new Question("would", x -> x.would(0, bad, 0, bad), false));
        some.add(new Question("needs", x -> x.needs(bad, 1, 2), false));
        some.add(new Question("merges", x -> x.merges(bad, bad), false));
        some.add(new Question("creditor", x -> x.creditor(bad), false));
        some.add(new Question("team", x -> x.team(bad, 0), false));
        some.add(new Question("called", x -> x.called(bad, 0), false));
        some.add(new Question("inside", x -> x.inside(0, bad, 0), false));
        some.add(new Question("triesIn", x -> x.triesIn(bad, 0), false));
        some.add(new Question("rowsIn", x -> x.rowsIn(0, bad, 0), false));
        some.add(new Question("quorum", x -> x.quorum(1, 1, bad), false));
        some.add(new Question("swings", x -> x.swings(bad, 1, 1), false));
        some.add(new Question("tries", x -> x.tries(bad, 0), false));
        some.add(new Question("band", x -> x.band(bad, 0), false));
        some.add(new Question("pairs", x -> x.pairs(bad, 0, 0), false));
        some.add(new Question("rows", x -> x.rows(0, bad, 0), false));
        some.add(new Question("fewest", x -> x.fewest(bad, 0, 0), false));
        some.add(new Question("longest", x -> x.longest(0, bad, 0), false));
        some.add(new Question("fits", x -> x.fits(bad), false));
        some.add(new Question("tells", x -> x.tells(bad), false));
        some.add(new Question("why", x -> x.why(bad), false));
        some.add(new Question("octet", x -> x.octet(bad), false));
        some.add(new Question("status", x -> x.status(bad), false));
        return some;
    }

    /** How many of them did not answer NONE. */
    private static long askAll(ShareWheel x, List<Question> some) {
        long others = 0;
        for (Question q : some) {
            others += q.ask.applyAsLong(x) == NONE ? 0 : 1;
        }
        return others;
    }

    private static void statusAsked() {
        by("49: NONE for others");
        ShareWheel x = rich();
        due("status(5)", x.status(5), 0);
        due("status(6)", x.status(6), NONE);
        due("status(-1)", x.status(-1), NONE);
        dueFar("status", x::status, NONE);
        by("49: each kind by itself, without a wheel and with one");
        ShareWheel y = new ShareWheel();
        y.end(1);
        y.wheel();
        y.wheel();
        y.set(0, 0, 0);
        y.pick(0);
        y.chance(1, 0);
        y.merge(1);
        y.merged();
        y.store();
        y.merge(2);
        y.undo();
        y.undo();
        y.undo();
        y.undo();
        y.undo();
        y.seed(-1);
        y.see(0);
        y.on();
        y.on();
        y.seed(-2);
        y.see(0);
        int[] want = {1, 2, 3, 4, 5, 6};
        for (int what = 0; what < 6; what++) {
            due("status(" + what + ")", y.status(what), want[what]);
        }
        due("wheel() leaves them", tell(y, text(1, "1")), 2);
        for (int what = 0; what < 6; what++) {
            due("status(" + what + ")", y.status(what), want[what]);
        }
    }
}
