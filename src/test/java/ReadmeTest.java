import java.io.IOException;
import java.lang.reflect.Method;
import java.lang.reflect.Modifier;
import java.nio.charset.StandardCharsets;
import java.nio.file.Files;
import java.nio.file.Path;
import java.util.Arrays;
import java.util.Map;
import java.util.regex.Matcher;
import java.util.regex.Pattern;

/** The example in README.md answers what is said behind each of its calls, and all calls are named there. */
public final class ReadmeTest {
    private static final Pattern BLOCK = Pattern.compile("(?s)```java\n(.*?)```");
    private static final Pattern TEXT = Pattern.compile("for \\(char c : \"([^\"]*)\"");
    private static final Pattern CALL = Pattern.compile("(?m)^x\\.(\\w+)\\(([^)]*)\\); +// (-?\\w+):? ");
    private static final Map<String, Integer> NAMES = Map.of("NONE", ChairRanks.NONE, "BAD", ChairRanks.BAD,
        "STATE", ChairRanks.STATE, "FULL", ChairRanks.FULL, "PLACE", -1000012);
    private static int wrong;

    private ReadmeTest() {
    }

    public static void main(String[] args) throws IOException, ReflectiveOperationException {
        String readme = Files.readString(Path.of("README.md"), StandardCharsets.UTF_8);
        Matcher block = BLOCK.matcher(readme);
        due(block.find(), "there is an example");
        theExample(block.group(1));
        for (Method m : ChairRanks.class.getDeclaredMethods()) {
            boolean isNamed = readme.contains("`" + m.getName() + "`");
            due(!Modifier.isPublic(m.getModifiers()) || isNamed, m.getName() + " is named");
        }
        due(readme.contains(".ci/run"), "how the tests are run is said");
        System.out.println(wrong == 0 ? "README.md is as due" : wrong + " things in README.md are not as due");
        if (wrong != 0) {
            System.exit(1);
        }
    }

    private static void due(boolean so, String what) {
        if (!so) {
            wrong++;
            System.out.println("not as due: " + what);
        }
    }

    private static void theExample(String example) throws ReflectiveOperationException {
        ChairRanks x = new ChairRanks();
        Matcher text = TEXT.matcher(example);
        due(text.find(), "the example tells a text");
        for (char c : text.group(1).toCharArray()) {
            x.feed(c);
        }
        Matcher call = CALL.matcher(example);
        int calls = 0;
        while (call.find()) {
            calls++;
            String said = call.group(3);
            long due = NAMES.containsKey(said) ? NAMES.get(said) : Long.parseLong(said);
            long got = answer(x, call.group(1), call.group(2));
            due(got == due, call.group() + "... answered " + got);
        }
        long lines = example.lines().filter(line -> line.startsWith("x.")).count();
        due(calls == lines, "an answer is said behind each of " + lines + " calls, not " + calls);
    }

    private static long answer(ChairRanks x, String name, String numbers) throws ReflectiveOperationException {
        Object[] boxed = Arrays.stream(numbers.split(", *")).filter(word -> !word.isEmpty()).map(Integer::valueOf).toArray();
        Class<?>[] types = new Class<?>[boxed.length];
        Arrays.fill(types, int.class);
        return ((Number) ChairRanks.class.getMethod(name, types).invoke(x, boxed)).longValue();
    }
}
