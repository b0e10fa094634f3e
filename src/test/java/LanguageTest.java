import java.io.IOException;
import java.lang.reflect.Field;
import java.lang.reflect.Method;
import java.lang.reflect.Modifier;
import java.nio.file.Files;
import java.nio.file.Path;
import java.util.ArrayList;
import java.util.List;
import java.util.regex.Matcher;
import java.util.regex.Pattern;

/** The rules of LANGUAGE.md that can be seen in the source or in the compiled classes. */
public final class LanguageTest {
    private static final Check CHECK = new Check("LanguageTest");

    public static void main(String[] args) throws IOException {
        String path = args.length > 0 ? args[0] : "src/main/java/CommonUnits.java";
        String source = Files.readString(Path.of(path));
        String code = withoutComments(source);
        words(code);
        loops(code);
        lengths(code);
        List<Class<?>> types = new ArrayList<>(List.of(CommonUnits.class.getDeclaredClasses()));
        types.add(CommonUnits.class);
        CHECK.holds("at most twelve classes", types.size() <= 12);
        for (Class<?> type : types) {
            shape(type);
        }
        CHECK.end();
    }

    /** Line breaks stay, so that lines can be counted. */
    private static String withoutComments(String source) {
        Matcher comments = Pattern.compile("/\\*.*?\\*/", Pattern.DOTALL).matcher(source);
        String rest = comments.replaceAll(m -> "\n".repeat((int) m.group().chars().filter(c -> c == '\n').count()));
        return rest.replaceAll("//[^\n]*", "");
    }

    private static void words(String code) {
        String[] forbidden = {"\\bthrow\\b", "\\bthrows\\b", "\\btry\\b", "\\bcatch\\b", "\\bsynchronized\\b",
            "\\bassert\\b", "\\bimport\\b", "\\bpackage\\b", "->", "::", "\\bstatic\\s*\\{", "\\bhashCode\\b",
            "\\btoString\\b", "Exact\\b", "\\bSystem\\.(?!arraycopy)", "\\bRandom\\b", "\\bThread\\b", "\\bvar\\b",
            "\\bdouble\\b", "\\bfloat\\b", "\\bObject\\b", "while\\s*\\(\\s*true", "for\\s*\\(\\s*;\\s*;"};
        for (String word : forbidden) {
            Matcher found = Pattern.compile(word).matcher(code);
            CHECK.holds("no " + word, !found.find());
        }
        CHECK.holds("signs up to 127", code.chars().allMatch(c -> c > 0 && c < 128));
    }

    /** Every for-loop shows a comparison; there is no other kind of loop. */
    private static void loops(String code) {
        CHECK.holds("no while", !Pattern.compile("\\bwhile\\b").matcher(code).find());
        Matcher loop = Pattern.compile("\\bfor \\(([^;]*);([^;]*);").matcher(code);
        while (loop.find()) {
            CHECK.holds("a bound in: " + loop.group(), loop.group(2).matches("(?s).*[<>].*"));
        }
    }

    private static void lengths(String code) {
        String[] lines = code.split("\n");
        int start = -1;
        String indent = "";
        for (int k = 0; k < lines.length; k++) {
            Matcher head = Pattern.compile("^( {4}| {8})[a-z][\\w\\[\\] ]*\\(.*\\) \\{$").matcher(lines[k]);
            if (head.find()) {
                start = k;
                indent = head.group(1);
            } else if (start >= 0 && lines[k].equals(indent + "}")) {
                CHECK.holds("not over sixty lines: " + lines[start].trim(), k - start < 60);
                start = -1;
            }
        }
    }

    private static void shape(Class<?> type) {
        int own = 0;
        for (Field field : type.getDeclaredFields()) {
            int flags = field.getModifiers();
            if (Modifier.isStatic(flags)) {
                CHECK.holds(field + " is final", Modifier.isFinal(flags));
            } else {
                own++;
            }
        }
        CHECK.holds(type + " has at most twenty fields", own <= 20);
        for (Method method : type.getDeclaredMethods()) {
            CHECK.holds(method + " takes at most seven", method.getParameterCount() <= 7);
        }
    }
}
