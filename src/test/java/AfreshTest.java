import java.lang.reflect.Method;
import java.lang.reflect.Modifier;
import java.util.ArrayList;
import java.util.Arrays;
import java.util.List;
import java.util.Set;
import java.util.function.ToLongFunction;

/**
 * A wheel told to an object that had a greater one, and much done to it, beside a new object that is told the same:
 * nothing of what was there ahead may be seen but what the document lets stay (the seed, what was refused, why(), the
 * latest image). The same for an image that is taken on.
 */
public final class AfreshTest extends Desk {
    private static final String[] SMALLER = {"wheel merge 3;", text(0, "0"), text(16, "0", "0") + "team t of b;",
        text(2, "1"), text(2, "1", "3") + "team t of b;team u of b,a;", text(1, "0", "5", "0", "2 by 512")};
    /** Questions that change nothing; of octet(), status(), why() what was ahead stays. */
    private static final Set<String> QUESTIONS = Set.of("fault", "has", "letter", "thing", "weight", "column", "mass",
            "rank", "share", "goes", "would", "needs", "merges", "owed", "creditor", "team", "called", "inside", "rowsIn",
            "quorum", "swings", "band", "pairs", "rows", "fewest", "longest", "fits", "tells");
    private static final int CHUNK = 300;

    private static final List<Method> METHODS = new ArrayList<>();

    public static void main(String[] args) throws Exception {
        for (Method method : ShareWheel.class.getDeclaredMethods()) {
            if (Modifier.isPublic(method.getModifiers()) && QUESTIONS.contains(method.getName())) {
                METHODS.add(method);
            }
        }
        due("questions", METHODS.size(), QUESTIONS.size());
        for (String text : SMALLER) {
            by("4: The tape is THE WHEEL; nothing of the one ahead of it is seen, behind: " + text);
            allAsked(text, false);
            tapesAsked(text);
            acts(text);
            by("48: it is as the image tells, behind: " + text);
            allAsked(text, true);
        }
        close("AfreshTest");
    }

    // ---- objects

    /** Sixteen things, four teams, and all that can be done to them. */
    private static ShareWheel used() {
        ShareWheel x = told(sixteen(16, "7") + "team q of a,b,c;team r of p;team s of o,p;team t of d,e,f,g;");
        store(x, alike(200, 0x6B));
        for (int i = 0; i < 16; i++) {
            x.pick(i % 3);
            weigh(x, i, 5000 + 77 * i);
        }
        x.merge(15);
        x.chance(60, 0);
        see(x, 15, 0, 0, 128, 255);
        x.tells(0);
        x.image();
        set(x, 3, -1);
        return x;
    }

    private static ShareWheel toldThen(ShareWheel x, String text) {
        due("wheel()", tell(x, text) > 0, true);
        x.seed(4321);
        return x;
    }

    /** Behind what an image tells, has(8) and has(11) stay, so that nothing may come to them ahead of it. */
    private static ShareWheel withImage(ShareWheel x, boolean wanted) {
        if (wanted) {
            int[] weights = new int[2 * x.has(0)];
            for (int i = 0; i < weights.length; i++) {
                weights[i] = 1024 * (i % 3) + i;
            }
            store(x, 1, 2, 3);
            due("on()", on(x, image(9, weights)), true);
        }
        return x;
    }

    // ---- what is asked

    private static void allAsked(String text, boolean imaged) throws Exception {
        ShareWheel one = null;
        ShareWheel other = null;
        int asked = 0;
        for (Method method : METHODS) {
            for (Object[] given : arguments(method.getParameterCount())) {
                if (asked % CHUNK == 0) {
                    one = withImage(toldThen(used(), text), imaged);
                    other = withImage(toldThen(new ShareWheel(), text), imaged);
                }
                asked++;
                long got = ((Number) method.invoke(one, given)).longValue();
                long want = ((Number) method.invoke(other, given)).longValue();
                due(method.getName() + Arrays.toString(given), got, want);
            }
        }
    }

    /** Small numbers that are things, teams, ways, kinds and counts by turns, and those on both sides of them. */
    private static List<Object[]> arguments(int count) {
        int[][] some = {{}, {-2, 17}, {-1, 5}, {-1, 4}, {0, 1}};
        List<Object[]> all = new ArrayList<>();
        all.add(new Object[0]);
        for (int k = 0; k < count; k++) {
            List<Object[]> longer = new ArrayList<>();
            for (Object[] given : all) {
                for (int v = some[count][0]; v <= some[count][1]; v++) {
                    Object[] more = Arrays.copyOf(given, k + 1);
                    more[k] = v;
                    longer.add(more);
                }
            }
            all = longer;
        }
        return all;
    }

    private static void tapesAsked(String text) {
        ShareWheel one = toldThen(used(), text);
        ShareWheel other = toldThen(new ShareWheel(), text);
        for (int filling : new int[] {0, 0x5A, 0xFF}) {
            for (int k = -1; k < 4; k++) {
                int asked = k;
                for (int w = 0; w < 2; w++) {
                    int what = w;
                    tapeAsked("tries", one, other, filling, x -> x.tries(asked, what));
                    tapeAsked("triesIn", one, other, filling, x -> x.triesIn(asked, what));
                }
                tapeAsked("deals", one, other, filling, x -> x.deals(asked));
            }
        }
    }

    private static void tapeAsked(String name, ShareWheel one, ShareWheel other, int filling,
            ToLongFunction<ShareWheel> ask) {
        tape(one, alike(3, filling));
        tape(other, alike(3, filling));
        due(name, ask.applyAsLong(one), ask.applyAsLong(other));
    }

    private static void acts(String text) {
        ShareWheel one = toldThen(used(), text);
        ShareWheel other = toldThen(new ShareWheel(), text);
        due("see(2)", see(one, 2, 0, 2), see(other, 2, 0, 2));
        due("undo()", one.undo(), other.undo());
        due("merged()", one.merged(), other.merged());
        due("store()", store(one, 0x12, 0x34, 0x56), store(other, 0x12, 0x34, 0x56));
        for (int way = 0; way < 3; way++) {
            due("pick(" + way + ")", one.pick(way), other.pick(way));
            due("chance(3, " + way + ")", one.chance(3, way), other.chance(3, way));
            due("set(" + way + ", 2)", set(one, way, 2), set(other, way, 2));
            sameAll(one, other);
        }
        due("image()", one.image(), other.image());
        for (int k = 0; k < 35; k++) {
            due("octet(" + k + ")", one.octet(k), other.octet(k));
        }
        for (int i = 0; i < 12; i++) {
            due("undo()", one.undo(), other.undo());
            sameAll(one, other);
        }
    }

    private static void sameAll(ShareWheel one, ShareWheel other) {
        for (int what = 0; what < 15; what++) {
            due("has(" + what + ")", one.has(what), other.has(what));
        }
    }
}
