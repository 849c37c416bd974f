import java.util.ArrayList;
import java.util.HashMap;
import java.util.List;
import java.util.Map;
import java.util.Set;
import java.util.TreeSet;

/** What of LANGUAGE.md can be seen from the compiled code alone: what each method calls, makes, throws. */
public final class CallsTest {
    /** Of the library, whole: rule 4, and the constructor that each class without another one above it calls. */
    private static final Set<String> LIBRARY = Set.of("java/lang/Object.<init>()V", "java/lang/String.length()I",
            "java/lang/String.charAt(I)C", "java/lang/Integer.numberOfLeadingZeros(I)I",
            "java/lang/Integer.numberOfTrailingZeros(I)I", "java/lang/Integer.bitCount(I)I",
            "java/lang/Math.max(II)I", "java/lang/Math.min(II)I", "java/util/Arrays.fill([II)V",
            "java/lang/System.arraycopy(Ljava/lang/Object;ILjava/lang/Object;II)V");
    /** Beside constructors: rows that are made when they are first needed, and used again. */
    private static final Set<String> MAKERS = Set.of("ShareWheel$History.keep(LShareWheel$State;)V",
            "ShareWheel$Seen.sortOut(LShareWheel$State;ILShareWheel$Walk;)V");
    private static final int MOST_DEPTH = 8;

    private static final Map<String, ClassFile.Body> BODIES = new HashMap<>();
    private static final Map<String, List<String>> BELOW = new HashMap<>();
    private static final Map<String, Integer> DEPTHS = new HashMap<>();
    private static final Set<String> OPEN_CALLS = new TreeSet<>();
    private static int wrong = 0;

    public static void main(String[] args) throws Exception {
        List<ClassFile> files = new ArrayList<>();
        files.add(new ClassFile(ShareWheel.class));
        for (Class<?> c : ShareWheel.class.getDeclaredClasses()) {
            files.add(new ClassFile(c));
        }
        for (ClassFile file : files) {
            BELOW.computeIfAbsent(file.above, k -> new ArrayList<>()).add(file.name);
            for (ClassFile.Body body : file.methods) {
                BODIES.put(body.key(), body);
            }
        }
        expect(files.size() > 2 && BODIES.size() > 100, "too little was read: " + BODIES.keySet());
        files.forEach(CallsTest::types);
        BODIES.values().forEach(CallsTest::body);
        BODIES.keySet().forEach(CallsTest::depth);
        int deepest = DEPTHS.values().stream().max(Integer::compare).orElse(0);
        expect(deepest <= MOST_DEPTH, "rule 11: calls go " + deepest + " deep");
        System.out.println("CallsTest: " + BODIES.size() + " methods, " + deepest + " deep, " + wrong + " wrong");
        if (wrong != 0) {
            System.exit(1);
        }
    }

    private static void expect(boolean holds, String text) {
        if (!holds) {
            wrong++;
            System.out.println(text);
        }
    }

    private static boolean isOwn(String member) {
        return member.startsWith("ShareWheel");
    }

    /** Rule 3: numbers, rows of these, own classes and rows of them, texts. */
    private static void types(ClassFile file) {
        for (String type : file.fieldTypes) {
            expect(type.matches("\\[{0,2}[IJSBCZ]|\\[?LShareWheel(\\$\\w+)?;|Ljava/lang/String;"),
                    "rule 3: " + file.name + " has a field of the type " + type);
        }
        expect(file.above.equals("java/lang/Object") || isOwn(file.above), "rule 2: above " + file.name);
    }

    private static void body(ClassFile.Body body) {
        expect(body.odd.isEmpty(), "rules 2, 6: " + body.key() + " has " + body.odd);
        expect(!body.name.equals("<clinit>"), "rule 5: " + body.owner + " makes static state");
        for (String call : body.calls) {
            expect(isOwn(call) || LIBRARY.contains(call), "rule 4: " + body.key() + " calls " + call);
        }
        boolean mayMake = body.name.equals("<init>") || MAKERS.contains(body.key());
        expect(body.makes.isEmpty() || mayMake, "rule 12: " + body.key() + " makes " + body.makes);
    }

    /** How many calls stand open at the most, this one among them; a call that comes to itself is told. */
    private static int depth(String key) {
        Integer known = DEPTHS.get(key);
        if (known != null) {
            return known;
        }
        if (!OPEN_CALLS.add(key)) {
            expect(false, "rule 8: a recursion through " + key);
            return 0;
        }
        int deepest = 0;
        ClassFile.Body body = BODIES.get(key);
        if (body != null) {
            for (String call : body.calls) {
                for (String target : targets(call)) {
                    deepest = Math.max(deepest, depth(target));
                }
            }
        }
        OPEN_CALLS.remove(key);
        DEPTHS.put(key, deepest + 1);
        return deepest + 1;
    }

    /** The method itself, and those of the classes below that stand in its place; constructors never do. */
    private static List<String> targets(String call) {
        List<String> all = new ArrayList<>();
        all.add(call);
        int dot = call.indexOf('.');
        if (call.startsWith(".<init>", dot)) {
            return all;
        }
        for (String below : BELOW.getOrDefault(call.substring(0, dot), List.of())) {
            all.add(below + call.substring(dot));
        }
        return all;
    }
}
