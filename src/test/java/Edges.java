import java.lang.reflect.InvocationTargetException;
import java.lang.reflect.Method;
import java.lang.reflect.Modifier;
import java.util.Arrays;
import java.util.HashMap;
import java.util.Map;
import java.util.Set;
import java.util.TreeSet;

/**
 * Runs tests of edges. Each names its promise and the words of the document that it holds the class
 * to, and is a script of calls on a new object with the answers that are due. A line of a script
 * has steps between bars:
 * <pre>
 *   nights(24) = 0              a call and its answer; without one the answer is free
 *   5 times nights(24) = 0      the same call again and again
 *   tell m0,1;p9,0,0; = 1       bytes fed one by one, then ministry()
 *   fill 0 bytes 7 8 9          row(), then set() of each item
 *   item(0, 2) = 5              an item, seen by the ministry SIX_STILL, which must be told
 *   look / same / same but status    all that can be seen of the ministry is as it was at look
 *   not BAD: nights(1)          a call that must not be refused as BAD
 *   new                         another object
 * </pre>
 * Numbers are figures, the names of refusals and findings, MIN, MAX, or sums of bits (64+2).
 */
final class Edges {
    /** Chairs 0 to 5 are 0 to 5 high for ever. */
    static final String SIX_STILL = "m0,1;p0,0,0;p1,0,0;p2,0,0;p3,0,0;p4,0,0;p5,0,0;";
    private static final int MOST_CALLS = 512, ANY_HIGH_AS_TOLD = 64 + 63;
    private static final Map<String, Long> NAMES = Map.ofEntries(
        Map.entry("NONE", -1000000L), Map.entry("BAD", -1000001L), Map.entry("STATE", -1000002L),
        Map.entry("FULL", -1000003L), Map.entry("NULL", -1000011L), Map.entry("PLACE", -1000012L),
        Map.entry("KIND", -1000013L), Map.entry("SIZE", -1000014L), Map.entry("STORE", -1000015L),
        Map.entry("MIN", (long) Integer.MIN_VALUE), Map.entry("MAX", (long) Integer.MAX_VALUE));
    private static final Map<String, Method> CALLS = calls();

    private final Set<String> promises = new TreeSet<>();
    private final Set<String> quoted = new TreeSet<>();
    private int tests;
    private int wrong;
    private boolean asDue;
    private String title;
    private ChairRanks x;
    private int calls;
    private String seen;
    private String seenStatus;

    private static Map<String, Method> calls() {
        Map<String, Method> found = new HashMap<>();
        for (Method m : ChairRanks.class.getDeclaredMethods()) {
            if (Modifier.isPublic(m.getModifiers())) {
                found.put(m.getName(), m);
            }
        }
        return found;
    }

    /** One test: the numbers of its promises, the document's words, the script. */
    void edge(String promise, String words, String... script) {
        promises.addAll(Arrays.asList(promise.split(" ")));
        quoted.add(words);
        tests++;
        asDue = true;
        title = "promise " + promise + ", '" + words + "'";
        begin();
        for (String line : String.join("\n", script).split("\n")) {
            for (String step : line.trim().split(" \\| ")) {
                if (asDue && !step.isBlank() && !step.startsWith("//")) {
                    take(step.trim());
                }
            }
        }
        if (!asDue) {
            wrong++;
        }
    }

    int tests() {
        return tests;
    }

    int wrong() {
        return wrong;
    }

    Set<String> promises() {
        return promises;
    }

    Set<String> quoted() {
        return quoted;
    }

    private void begin() {
        x = new ChairRanks();
        calls = 0;
        seen = null;
    }

    private void fail(String what) {
        asDue = false;
        System.out.println(title + ": " + what);
    }

    private void take(String step) {
        String[] sides = step.split(" = |= ", 2);
        String call = sides[0].trim();
        String due = sides.length > 1 ? sides[1].trim() : null;
        if (call.equals("new")) {
            begin();
        } else if (call.equals("look")) {
            look();
        } else if (call.startsWith("same")) {
            compare(call.equals("same"));
        } else if (call.startsWith("fill ")) {
            fill(call.split(" "));
        } else if (call.matches("\\d+ times .*")) {
            int times = Integer.parseInt(call.substring(0, call.indexOf(' ')));
            for (int k = 0; k < times && asDue; k++) {
                expect(call.substring(call.indexOf(" times ") + 7), due);
            }
        } else if (call.startsWith("not BAD: ")) {
            notBad(call.substring(9));
        } else if (call.startsWith("tell")) {
            tell(call.substring(4).trim(), due);
        } else {
            expect(call, due);
        }
    }

    private void tell(String text, String due) {
        for (int k = 0; k < text.length(); k++) {
            answer("feed", text.charAt(k));
        }
        expect("ministry()", due == null ? String.valueOf(text.split(";").length - 1) : due);
    }

    private void fill(String[] words) {
        int row = Integer.parseInt(words[1]);
        int lane = Arrays.asList("bytes", "shorts", "ints").indexOf(words[2]);
        answer("row", row, lane, words.length - 3);
        for (int k = 3; k < words.length; k++) {
            answer("set", row, k - 3, (int) number(words[k]));
        }
    }

    private void expect(String call, String due) {
        String name = call.substring(0, call.indexOf('('));
        int[] numbers = numbers(call);
        if (name.equals("item")) {
            long got = answer("guarded", (int) number(due), numbers[0], numbers[1], 1);
            if (got != ANY_HIGH_AS_TOLD) {
                fail(call + " is not " + due + ": " + got);
            }
            return;
        }
        long got = answer(name, numbers);
        if (due != null && got != number(due)) {
            fail(call + ", call " + calls + ", answered " + got + ", due is " + due);
        }
    }

    private void notBad(String call) {
        if (answer(call.substring(0, call.indexOf('(')), numbers(call)) == NAMES.get("BAD")) {
            fail(call + ", call " + calls + ", answered BAD");
        }
    }

    private static int[] numbers(String call) {
        String inside = call.substring(call.indexOf('(') + 1, call.lastIndexOf(')')).trim();
        String[] words = inside.isEmpty() ? new String[0] : inside.split(", *");
        return Arrays.stream(words).mapToInt(word -> (int) number(word)).toArray();
    }

    private static long number(String word) {
        long sum = 0;
        for (String part : word.split("\\+")) {
            sum += NAMES.containsKey(part) ? NAMES.get(part) : Long.parseLong(part);
        }
        return sum;
    }

    private long answer(String name, int... numbers) {
        calls++;
        if (calls == MOST_CALLS + 1) {
            fail("more calls than an object is good for");
        }
        try {
            Object[] boxed = Arrays.stream(numbers).boxed().toArray();
            return ((Number) CALLS.get(name).invoke(x, boxed)).longValue();
        } catch (InvocationTargetException e) {
            fail(name + Arrays.toString(numbers) + " threw " + e.getCause());
        } catch (ReflectiveOperationException e) {
            fail(name + Arrays.toString(numbers) + " is no call: " + e);
        }
        return 0;
    }

    private void look() {
        seen = picture();
        seenStatus = "" + answer("status");
    }

    private void compare(boolean withStatus) {
        String now = picture();
        if (!now.equals(seen)) {
            fail("what is seen was " + seen + ", is " + now);
        }
        String status = "" + answer("status");
        if (withStatus && !status.equals(seenStatus)) {
            fail("status() was " + seenStatus + ", is " + status);
        }
    }

    private String picture() {
        StringBuilder all = new StringBuilder();
        for (int what = 0; what < 8; what++) {
            all.append(answer("count", what)).append(' ');
        }
        long chairs = answer("count", 1);
        for (int one = 0; one < chairs; one++) {
            all.append("/ ").append(answer("kind", one)).append(' ');
            for (int what = 0; what < 9; what++) {
                all.append(answer("chair", one, what)).append(' ');
            }
        }
        all.append("/ ");
        for (int i = 0; i < 7; i++) {
            all.append(answer("trace", i)).append(' ');
        }
        return all.toString();
    }
}
