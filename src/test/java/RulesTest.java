import java.lang.reflect.Field;
import java.lang.reflect.Method;
import java.lang.reflect.Modifier;
import java.nio.file.Files;
import java.nio.file.Path;
import java.util.ArrayList;
import java.util.Arrays;
import java.util.List;
import java.util.regex.Matcher;
import java.util.regex.Pattern;

/** What of LANGUAGE.md can be seen from the source's text and the compiled classes. */
public final class RulesTest {
    private static int wrong = 0;

    public static void main(String[] args) throws Exception {
        String source = Files.readString(Path.of("src/main/java/ShareWheel.java"));
        String code = source.replaceAll("(?s)/\\*.*?\\*/", "").replaceAll("//[^\n]*", "");
        words(code);
        imports(code);
        lengths(code);
        members();
        System.out.println("RulesTest: " + wrong + " wrong");
        if (wrong != 0) {
            System.exit(1);
        }
    }

    private static void expect(boolean holds, String text) {
        if (!holds) {
            wrong++;
            System.out.println(text);
        }
    }

    private static void words(String code) {
        String[] ruledOut = {"try", "catch", "finally", "throw", "throws", "synchronized", "assert", "package",
            "native", "volatile", "transient", "double", "float", "Exception", "Double", "Float", "System\\.out",
            "hashCode", "toString", "goto", "var"};
        for (String word : ruledOut) {
            expect(!Pattern.compile("\\b" + word + "\\b").matcher(code).find(), "ruled out, or not needed: " + word);
        }
        expect(!code.contains("->") && !code.contains("::"), "no lambda, no method reference");
        expect(!code.contains("@"), "no annotation");
        expect(code.chars().allMatch(c -> c < 128), "signs 1 to 127 alone");
        Matcher calls = Pattern.compile("\\b(Integer|Long|Math|Arrays|System)\\.(\\w+)").matcher(code);
        List<String> known = List.of("Integer.numberOfLeadingZeros", "Integer.numberOfTrailingZeros",
                "Integer.bitCount", "Math.max", "Math.min", "Arrays.fill", "System.arraycopy");
        while (calls.find()) {
            expect(known.contains(calls.group()), "a call of the library: " + calls.group());
        }
    }

    private static void imports(String code) {
        Matcher m = Pattern.compile("import ([\\w.*]+);").matcher(code);
        while (m.find()) {
            expect(m.group(1).equals("java.util.Arrays"), "an import: " + m.group(1));
        }
    }

    /** Methods of some sixty lines at most. */
    private static void lengths(String code) {
        String[] lines = code.split("\n");
        for (int indent = 4; indent <= 8; indent += 4) {
            String end = " ".repeat(indent) + "}";
            int begin = -1;
            for (int i = 0; i < lines.length; i++) {
                String line = lines[i];
                if (line.matches(" {" + indent + "}\\w[^=;]*\\(.*\\) \\{")) {
                    begin = i;
                }
                if (line.equals(end) && begin >= 0) {
                    expect(i - begin <= 60, "a method of " + (i - begin) + " lines: " + lines[begin].trim());
                    begin = -1;
                }
            }
        }
        for (String line : lines) {
            expect(line.length() <= 120, "a long line: " + line);
        }
    }

    private static void members() {
        List<Class<?>> all = new ArrayList<>(Arrays.asList(ShareWheel.class.getDeclaredClasses()));
        all.add(ShareWheel.class);
        expect(all.size() <= 12, "classes: " + all.size());
        for (Class<?> c : all) {
            int fields = 0;
            for (Field f : c.getDeclaredFields()) {
                boolean constant = Modifier.isStatic(f.getModifiers());
                fields += constant ? 0 : 1;
                expect(!constant || Modifier.isFinal(f.getModifiers()), "a static field that is not final: " + f);
            }
            expect(fields <= 20, c + " has fields: " + fields);
            for (Method m : c.getDeclaredMethods()) {
                expect(m.getParameterCount() <= 7, "parameters: " + m);
            }
        }
    }
}
