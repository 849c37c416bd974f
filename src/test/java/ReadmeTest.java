import java.lang.reflect.Method;
import java.lang.reflect.Modifier;
import java.nio.charset.StandardCharsets;
import java.nio.file.Files;
import java.nio.file.Path;
import java.util.ArrayList;
import java.util.Arrays;
import java.util.List;
import java.util.Set;
import java.util.TreeSet;
import java.util.regex.Matcher;
import java.util.regex.Pattern;
import java.util.stream.Stream;

/** README.md says what is so: its examples are played, and calls, classes and tests are all there, by their names. */
public final class ReadmeTest {
    private static final String NEW = "ShareWheel x = new ShareWheel();";
    private static final Pattern CALL = Pattern.compile("x\\.(\\w+)\\((.*)\\); // (-?\\w+)\\b.*");
    private static final Pattern TOLD = Pattern.compile("// \"(.*)\"");
    private static final Pattern NAME = Pattern.compile("`(\\w+)`");

    private static int wrong = 0;
    private static int played = 0;
    private static ShareWheel wheel;
    private static String told = "";
    private static final StringBuilder TAPE = new StringBuilder();

    public static void main(String[] args) throws Exception {
        List<String> page = Files.readAllLines(Path.of("README.md"), StandardCharsets.US_ASCII);
        examples(page);
        same("calls", namesInTable(page, "| what for | calls |", 2), faceNames());
        same("classes", namesInTable(page, "| class inside | what it is for |", 1), innerNames());
        same("calls that take the tape", tapeCallsTold(page), tapeCalls());
        same("tests", testsTold(page), filesOf("src/test/java"));
        paths(page);
        System.out.println("ReadmeTest: " + played + " calls, " + wrong + " wrong");
        if (wrong != 0) {
            System.exit(1);
        }
    }

    private static void expect(boolean holds, String text) {
        if (!holds) {
            wrong++;
            System.out.println(text);
        }
    }

    private static void same(String what, Set<String> page, Set<String> there) {
        expect(page.equals(there), what + " on the page are " + page + ", there are " + there);
    }

    // ---- examples

    private static void examples(List<String> page) throws Exception {
        boolean inside = false;
        for (String line : page) {
            if (line.startsWith("```")) {
                inside = line.equals("```java");
            } else if (inside) {
                play(line);
            }
        }
        expect(played > 30, "too few calls were found: " + played);
    }

    private static void play(String line) throws Exception {
        Matcher text = TOLD.matcher(line);
        Matcher call = CALL.matcher(line);
        if (line.equals(NEW)) {
            wheel = new ShareWheel();
            told = "";
            TAPE.setLength(0);
        } else if (text.matches()) {
            told = text.group(1);
        } else if (call.matches() && wheel != null) {
            ask(line, call.group(1), numbers(call.group(2)), call.group(3));
        } else {
            expect(false, "a line that can't be played: " + line);
        }
    }

    private static int[] numbers(String list) {
        return list.isEmpty() ? new int[0]
                : Stream.of(list.split(", ")).mapToInt(number -> Long.decode(number).intValue()).toArray();
    }

    private static void ask(String line, String name, int[] given, String due) throws Exception {
        Class<?>[] types = new Class<?>[given.length];
        Arrays.fill(types, int.class);
        Object[] arguments = Arrays.stream(given).boxed().toArray();
        follow(name, given);
        String got = String.valueOf(ShareWheel.class.getMethod(name, types).invoke(wheel, arguments));
        played++;
        expect(got.equals(due), "answered " + got + ": " + line);
    }

    /** The text above the feeding calls is the one that they bring. */
    private static void follow(String name, int[] given) {
        if (name.equals("feed")) {
            for (int number : given) {
                for (int shift = 24; shift >= 0; shift -= 8) {
                    TAPE.append((char) (number >>> shift & 255));
                }
            }
        } else if (name.equals("end")) {
            TAPE.setLength(given[0]);
        } else if (name.equals("wheel")) {
            expect(TAPE.toString().equals(told), "the tape has '" + TAPE + "', told was '" + told + "'");
            TAPE.setLength(0);
        } else if (List.of("tries", "triesIn", "deals", "see", "store", "on").contains(name)) {
            TAPE.setLength(0);
        }
    }

    // ---- names

    private static Set<String> namesInTable(List<String> page, String head, int column) {
        Set<String> names = new TreeSet<>();
        int at = page.indexOf(head);
        for (int i = at + 2; at >= 0 && i < page.size() && page.get(i).startsWith("|"); i++) {
            Matcher name = NAME.matcher(page.get(i).split("\\|")[column]);
            while (name.find()) {
                expect(names.add(name.group(1)), "told twice: " + name.group(1));
            }
        }
        return names;
    }

    private static Set<String> faceNames() {
        Set<String> names = new TreeSet<>();
        for (Method method : ShareWheel.class.getDeclaredMethods()) {
            if (Modifier.isPublic(method.getModifiers())) {
                names.add(method.getName());
            }
        }
        return names;
    }

    /** The names behind the words "whether they succeed or not", to the end of the sentence. */
    private static Set<String> tapeCallsTold(List<String> page) {
        Set<String> names = new TreeSet<>();
        Matcher sentence = Pattern.compile("(?s)whether they succeed or\\s+not: ([^.]*)\\.")
                .matcher(String.join("\n", page));
        if (sentence.find()) {
            NAME.matcher(sentence.group(1)).results().forEach(name -> names.add(name.group(1)));
        }
        return names;
    }

    private static Set<String> tapeCalls() throws Exception {
        Set<String> names = new TreeSet<>();
        for (Method method : ShareWheel.class.getDeclaredMethods()) {
            boolean isFace = Modifier.isPublic(method.getModifiers());
            ShareWheel x = new ShareWheel();
            x.feed(1, 2, 3, 4, 5);
            if (isFace && !Set.of("feed", "end").contains(method.getName())) {
                Object[] zeros = new Object[method.getParameterCount()];
                Arrays.fill(zeros, 0);
                method.invoke(x, zeros);
                if (!x.end(1)) {
                    names.add(method.getName());
                }
            }
        }
        return names;
    }

    private static Set<String> innerNames() {
        Set<String> names = new TreeSet<>();
        for (Class<?> inner : ShareWheel.class.getDeclaredClasses()) {
            names.add(inner.getSimpleName());
        }
        return names;
    }

    private static Set<String> testsTold(List<String> page) {
        Set<String> names = new TreeSet<>();
        for (String line : page) {
            Matcher name = Pattern.compile("- `(\\w+Test)`: .*").matcher(line);
            if (name.matches()) {
                names.add(name.group(1));
            }
        }
        return names;
    }

    private static Set<String> filesOf(String folder) throws Exception {
        Set<String> names = new TreeSet<>();
        try (Stream<Path> files = Files.list(Path.of(folder))) {
            files.forEach(file -> names.add(file.getFileName().toString().replace(".java", "")));
        }
        return names;
    }

    /** Whatever on the page looks like a path of the project is there. */
    private static void paths(List<String> page) {
        List<String> found = new ArrayList<>();
        Matcher path = Pattern.compile("(src/[\\w/.]*\\w|\\.ci/run|NOTES\\.md)").matcher(String.join("\n", page));
        while (path.find()) {
            found.add(path.group(1));
            expect(Files.exists(Path.of(path.group(1))), "no such file: " + path.group(1));
        }
        expect(found.contains(".ci/run") && Files.isExecutable(Path.of(".ci/run")), ".ci/run is told, and can be run");
    }
}
