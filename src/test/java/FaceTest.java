import java.lang.reflect.Constructor;
import java.lang.reflect.Field;
import java.lang.reflect.Method;
import java.lang.reflect.Modifier;
import java.util.ArrayList;
import java.util.Arrays;
import java.util.Collections;
import java.util.List;
import java.util.Random;
import java.util.TreeSet;

/** The public face, and that no call of it ever throws, whatever it is given. */
public final class FaceTest {
    private static final String[] FACE = {
        "int feed(int,int,int,int,int)", "boolean end(int)", "int wheel()", "int fault(int)", "int has(int)",
        "int letter(int,int)", "int thing(int,int)", "long weight(int)", "int column(int,int)", "int mass(int)",
        "int rank(int)", "int share(int,int)", "int goes(int)", "int would(int,int,int,int)",
        "int needs(int,int,int)", "int merges(int,int)", "int owed(int)", "int creditor(int)",
        "int team(int,int)", "int called(int,int)", "int inside(int,int,int)", "int triesIn(int,int)",
        "int rowsIn(int,int,int)", "int quorum(int,int,int)", "int swings(int,int,int)", "int tries(int,int)",
        "int band(int,int)", "int deals(int)", "int pairs(int,int,int)", "int rows(int,int,int)",
        "int fewest(int,int,int)", "int longest(int,int,int)", "int see(int)", "int fits(int)", "int tells(int)",
        "int set(int,int,int)", "int why(int)", "boolean merge(int)", "boolean merged()", "int store()",
        "int pick(int)", "int chance(int,int)", "boolean undo()", "boolean seed(int)", "int image()",
        "int octet(int)", "boolean on()", "int status(int)"};
    private static int wrong = 0;

    public static void main(String[] args) throws Exception {
        members();
        names();
        noThrow();
        System.out.println("FaceTest: " + wrong + " wrong");
        if (wrong != 0) {
            System.exit(1);
        }
    }

    private static void expect(boolean holds, String text) {
        if (!holds) {
            wrong++;
            System.out.println(text);
        }
    }

    private static String signature(Method m) {
        List<String> types = new ArrayList<>();
        for (Class<?> c : m.getParameterTypes()) {
            types.add(c.getName());
        }
        return m.getReturnType().getName() + " " + m.getName() + "(" + String.join(",", types) + ")";
    }

    private static void members() throws Exception {
        expect(Modifier.isFinal(ShareWheel.class.getModifiers()), "the class is final");
        List<String> found = new ArrayList<>();
        for (Method m : ShareWheel.class.getDeclaredMethods()) {
            if (!Modifier.isPrivate(m.getModifiers())) {
                expect(Modifier.isPublic(m.getModifiers()), "neither public nor private: " + m);
                found.add(signature(m));
            }
        }
        List<String> want = new ArrayList<>(Arrays.asList(FACE));
        Collections.sort(want);
        Collections.sort(found);
        expect(found.equals(want), "the methods are " + found + ", due are " + want);
        List<String> constants = new ArrayList<>();
        for (Field f : ShareWheel.class.getDeclaredFields()) {
            if (!Modifier.isPrivate(f.getModifiers())) {
                constants.add(f.getName() + "=" + f.getInt(null));
            }
        }
        expect(constants.equals(List.of("NONE=-1", "OPEN=-2", "NOTHING=-1000000")), "the constants: " + constants);
        Constructor<?>[] made = ShareWheel.class.getDeclaredConstructors();
        expect(made.length == 1 && Modifier.isPublic(made[0].getModifiers())
                && made[0].getParameterCount() == 0, "one public constructor");
        for (Class<?> c : ShareWheel.class.getDeclaredClasses()) {
            expect(Modifier.isStatic(c.getModifiers()) && !Modifier.isPublic(c.getModifiers()), "the class " + c);
        }
    }

    /** No method inside bears the name of one of the face. */
    private static void names() {
        TreeSet<String> face = new TreeSet<>();
        for (String s : FACE) {
            face.add(s.substring(s.indexOf(' ') + 1, s.indexOf('(')));
        }
        List<Class<?>> all = new ArrayList<>(Arrays.asList(ShareWheel.class.getDeclaredClasses()));
        all.add(ShareWheel.class);
        for (Class<?> c : all) {
            for (Method m : c.getDeclaredMethods()) {
                expect(c == ShareWheel.class && Modifier.isPublic(m.getModifiers()) || !face.contains(m.getName()),
                        "a name of the face: " + m);
            }
        }
    }

    private static void noThrow() throws Exception {
        Random random = new Random(5);
        String[] texts = {
            "wheel merge 2;", "wheel merge 0;thing a weighs 0;team b of a;",
            "wheel merge 16;thing a weighs 9999;thing b weighs 1 by 1024;team c of a,b;team d of b;",
            "wheel merge 3;thing a weighs 1;thing b weighs 2;thing c weighs 3;team d of a;team e of c,a;", many()};
        for (int run = 0; run < 120; run++) {
            ShareWheel x = new ShareWheel();
            for (int k = 0; k < 500; k++) {
                if (k % 97 == 5) {
                    feed(x, texts[random.nextInt(texts.length)]);
                    x.wheel();
                }
                Method m = method(random.nextInt(FACE.length));
                Object[] given = new Object[m.getParameterCount()];
                for (int i = 0; i < given.length; i++) {
                    given[i] = argument(random);
                }
                try {
                    m.invoke(x, given);
                } catch (Exception e) {
                    expect(false, m.getName() + Arrays.toString(given) + " threw " + e.getCause());
                }
            }
        }
    }

    private static String many() {
        StringBuilder b = new StringBuilder("wheel merge 16;");
        for (char c = 'a'; c < 'q'; c++) {
            b.append("thing ").append(c).append(" weighs ").append((c * 7919) % 10000).append(';');
        }
        return b.append("team x of a,p,c;").toString();
    }

    private static void feed(ShareWheel x, String text) {
        x.end(0);
        StringBuilder b = new StringBuilder(text);
        while (b.length() % 20 != 0) {
            b.append(' ');
        }
        for (int i = 0; i < b.length(); i += 20) {
            int[] w = new int[5];
            for (int k = 0; k < 20; k++) {
                w[k / 4] = w[k / 4] << 8 | b.charAt(i + k);
            }
            x.feed(w[0], w[1], w[2], w[3], w[4]);
        }
    }

    private static Method method(int k) throws Exception {
        String name = FACE[k].substring(FACE[k].indexOf(' ') + 1, FACE[k].indexOf('('));
        for (Method m : ShareWheel.class.getDeclaredMethods()) {
            if (m.getName().equals(name)) {
                return m;
            }
        }
        throw new IllegalStateException(name);
    }

    private static int argument(Random random) {
        switch (random.nextInt(8)) {
            case 0: return random.nextInt();
            case 1: return Integer.MIN_VALUE + random.nextInt(2);
            case 2: return Integer.MAX_VALUE - random.nextInt(2);
            case 3: return random.nextInt(10238980);
            case 4: return 1 << random.nextInt(32);
            default: return random.nextInt(20) - 2;
        }
    }
}
