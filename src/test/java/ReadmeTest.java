import java.io.File;
import java.io.IOException;
import java.lang.reflect.Method;
import java.lang.reflect.Modifier;
import java.nio.file.Files;
import java.nio.file.Path;
import java.util.Arrays;
import java.util.regex.Matcher;
import java.util.regex.Pattern;

/** README.md shows how to use the class: what it says there must be so. */
public final class ReadmeTest {
    private static final Check CHECK = new Check("ReadmeTest");
    private static final Pattern TEXT = Pattern.compile("\"(\\w+)\"\\.toCharArray");
    private static final Pattern CALL = Pattern.compile("^units\\.(\\w+)\\((.*?)\\);\\s*// (-?\\d+)\\b.*");

    public static void main(String[] args) throws IOException {
        String main = args.length > 0 ? args[0] : "src/main/java/CommonUnits.java";
        Path root = Path.of(main).toAbsolutePath().getParent().getParent().getParent().getParent();
        String readme = Files.readString(root.resolve("README.md"));
        example(readme);
        for (Method method : CommonUnits.class.getDeclaredMethods()) {
            String call = "`" + method.getName() + "(";
            CHECK.holds("tells of " + call, !Modifier.isPublic(method.getModifiers()) || readme.contains(call));
        }
        for (File file : root.resolve("src/test/java").toFile().listFiles()) {
            String name = file.getName().replace(".java", "");
            CHECK.holds("tells of " + name, !name.endsWith("Test") || readme.contains("`" + name + "`"));
        }
        CHECK.holds("tells how to run the tests", readme.contains("\n    .ci/run\n"));
        CHECK.end();
    }

    /** All lines of the example that begin with a call tell its answer. */
    private static void example(String readme) {
        CommonUnits units = new CommonUnits();
        int answers = 0;
        for (String line : readme.split("\n")) {
            Matcher text = TEXT.matcher(line);
            Matcher call = CALL.matcher(line);
            if (text.find()) {
                Check.type(units, text.group(1));
            } else if (call.matches()) {
                long got = Script.call(units, call.group(1), numbers(call.group(2)));
                CHECK.due(line, got, Long.parseLong(call.group(3)));
                answers++;
            } else {
                CHECK.holds("an answer in: " + line, !line.startsWith("units."));
            }
        }
        CHECK.holds("an example", answers > 20);
    }

    private static long[] numbers(String arguments) {
        return Arrays.stream(arguments.split(", ")).filter(word -> !word.isEmpty()).mapToLong(ReadmeTest::number)
            .toArray();
    }

    private static long number(String word) {
        if (word.equals("true") || word.equals("false")) {
            return word.equals("true") ? 1 : 0;
        }
        return Long.parseLong(word.replace("L", ""));
    }
}
