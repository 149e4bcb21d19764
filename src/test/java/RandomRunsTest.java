import java.lang.reflect.Method;
import java.util.ArrayList;
import java.util.Arrays;
import java.util.Collections;
import java.util.LinkedHashMap;
import java.util.List;
import java.util.Map;
import java.util.Random;

/** Long runs of drawn calls on the class and on PlainModel: every answer must be alike. */
public final class RandomRunsTest {
    private static final int RUNS = 600, CALLS = 512;

    /** What the numbers of each call are, so that most of those drawn are as told. */
    private static final String[] CALLS_TOLD = {
        "row ROW LANE ITEMS", "set ROW PLACE ANY", "copy ROW PLACE ROW PLACE FEW", "drop ROW",
        "feed LETTER", "ministry", "fault", "undo",
        "nights DONE", "cushions CHAIR CUSHIONS", "mend CHAIR", "watch CHAIR BIT", "change CHAIR CHAIR",
        "saw CHAIR SAW", "chair CHAIR NINE", "ranked CHAIR",
        "ahead CHAIR FAR THREE", "minister FAR", "floor CHAIR", "rises CHAIR RANK", "calm",
        "cushionFor CHAIR RANK NEAR", "guard CHAIR RANK NEAR BIT", "bestWatch NEAR1 BIT",
        "sawdust ROW PLACE", "pile ROW PLACE", "climb CHAIR", "coalition BIT", "sawnBy CHAIR", "round",
        "enemy CHAIR NEAR1 BIT", "who CHAIR THREE CHAIR ROW PLACE TOLD", "guarded CHAIR ROW PLACE TOLD",
        "doze CHAIR RANK NEAR TEN BIT", "drawn FAR SEED BIT", "image BIT", "restore BIT",
        "kind CHAIR", "as CHAIR KIND", "ask CHAIR BIT", "trace SIX", "count EIGHT", "status",
    };

    private final Random random;
    private final ChairRanks real = new ChairRanks();
    private final PlainModel model = new PlainModel();
    private final List<String> log = new ArrayList<>();
    private int calls;
    private static final Map<String, Method> REAL = methods(ChairRanks.class);
    private static final Map<String, Method> MODEL = methods(PlainModel.class);

    private RandomRunsTest(long seed) {
        random = new Random(seed);
    }

    private static Map<String, Method> methods(Class<?> of) {
        Map<String, Method> found = new LinkedHashMap<>();
        for (Method m : of.getDeclaredMethods()) {
            if (java.lang.reflect.Modifier.isPublic(m.getModifiers())) {
                found.put(m.getName(), m);
            }
        }
        return found;
    }

    public static void main(String[] args) throws Exception {
        int runs = args.length > 0 ? Integer.parseInt(args[0]) : RUNS;
        long from = args.length > 1 ? Long.parseLong(args[1]) : 0;
        for (long seed = from; seed < from + runs; seed++) {
            if (!new RandomRunsTest(seed).run()) {
                System.out.println("seed " + seed);
                System.exit(1);
            }
        }
        System.out.println("all answers are as due in " + runs + " drawn runs");
    }

    private boolean run() throws Exception {
        boolean alike = true;
        if (random.nextInt(8) > 0) {
            alike = tellMinistry();
        }
        while (alike && calls < CALLS) {
            int draw = random.nextInt(40);
            if (draw == 0 && calls < CALLS - 150) {
                alike = tellMinistry();
            } else if (draw == 1) {
                alike = tellOrder();
            } else if (draw == 2 || draw == 3) {
                alike = tellHighs();
            } else if (draw == 4) {
                alike = bothLook();
            } else {
                alike = drawnCall();
            }
        }
        if (!alike) {
            for (String line : log) {
                System.out.println(line);
            }
        }
        return alike;
    }

    private boolean both(String name, int... numbers) throws Exception {
        if (calls >= CALLS) {
            return true;
        }
        calls++;
        Object[] boxed = Arrays.stream(numbers).boxed().toArray();
        long got = ((Number) REAL.get(name).invoke(real, boxed)).longValue();
        long due = ((Number) MODEL.get(name).invoke(model, boxed)).longValue();
        log.add(name + Arrays.toString(numbers) + " answered " + got + (got == due ? "" : ", due is " + due));
        return got == due;
    }

    private boolean drawnCall() throws Exception {
        String[] words = CALLS_TOLD[random.nextInt(CALLS_TOLD.length)].split(" ");
        int[] numbers = new int[words.length - 1];
        boolean wild = random.nextInt(12) == 0;
        for (int k = 0; k < numbers.length; k++) {
            numbers[k] = wild && random.nextInt(2) == 0 ? wildNumber(words[k + 1]) : number(words[k + 1]);
        }
        if (words[0].equals("ministry") && random.nextInt(3) > 0) {
            return true;
        }
        return both(words[0], numbers);
    }

    private int[] bounds(String word) {
        int chairs = model.hall().chairs.size();
        switch (word) {
            case "ROW": return new int[] {0, random.nextInt(4) == 0 ? 7 : 2};
            case "LANE": case "THREE": return new int[] {0, 2};
            case "ITEMS": return new int[] {0, random.nextInt(2) == 0 ? 40 : 6};
            case "PLACE": return new int[] {0, random.nextInt(3) == 0 ? 40 : 2};
            case "FEW": return new int[] {0, 6};
            case "LETTER": return new int[] {0, 255};
            case "DONE": return new int[] {1, random.nextInt(3) == 0 ? 24 : 3};
            case "CHAIR": return new int[] {0, Math.max(0, chairs - 1)};
            case "CUSHIONS": return new int[] {0, 20};
            case "BIT": return new int[] {0, 1};
            case "SAW": return new int[] {0, 9};
            case "NINE": return new int[] {0, 8};
            case "FAR": return new int[] {0, 60};
            case "RANK": return new int[] {0, 5};
            case "NEAR": return new int[] {0, 30};
            case "NEAR1": return new int[] {1, 30};
            case "TOLD": return new int[] {1, random.nextInt(2) == 0 ? 12 : 3};
            case "TEN": return new int[] {0, 10};
            case "SEED": return new int[] {1, 999999};
            case "KIND": return new int[] {0, 5};
            case "SIX": return new int[] {0, 5};
            case "EIGHT": return new int[] {0, 7};
            default: return random.nextBoolean() ? new int[] {-1000000000, 1000000000} : new int[] {-300, 300};
        }
    }

    private int number(String word) {
        int[] bounds = bounds(word);
        int draw = random.nextInt(12);
        if (draw == 0) {
            return bounds[0];
        }
        if (draw == 1) {
            return bounds[1];
        }
        return bounds[0] + random.nextInt(bounds[1] - bounds[0] + 1);
    }

    private int wildNumber(String word) {
        int[] bounds = bounds(word);
        int[] wild = {bounds[0] - 1, bounds[1] + 1, bounds[1] + 2, -1, Integer.MIN_VALUE, Integer.MAX_VALUE,
            Integer.MAX_VALUE - 1, 41, 8, 300};
        return wild[random.nextInt(wild.length)];
    }

    private String drawnText() {
        StringBuilder text = new StringBuilder("m");
        text.append(figures(random.nextInt(6))).append(',').append(figures(1 + random.nextInt(9))).append(';');
        int chairs = random.nextInt(12) == 0 ? 7 : 1 + random.nextInt(6);
        int most = new int[] {5, 12, 30, 60}[random.nextInt(4)];
        for (int k = 0; k < chairs; k++) {
            text.append("prcot".charAt(random.nextInt(5))).append(figures(random.nextInt(most + 1))).append(',')
                .append(figures(random.nextInt(random.nextBoolean() ? 10 : 4))).append(',')
                .append(figures(random.nextInt(5) == 0 ? 0 : 1 + random.nextInt(3))).append(';');
        }
        return text.toString();
    }

    private String figures(int n) {
        return n < 10 && random.nextInt(30) == 0 ? "0" + n : "" + n;
    }

    private String spoilt(String text) {
        StringBuilder s = new StringBuilder(text);
        int at = random.nextInt(s.length());
        char other = "mprcotxz019,; M/:`{".charAt(random.nextInt(19));
        switch (random.nextInt(4)) {
            case 0: s.deleteCharAt(at); break;
            case 1: s.insert(at, other); break;
            case 2: s.setCharAt(at, other); break;
            default: s.setLength(at); break;
        }
        return s.toString();
    }

    private boolean tellMinistry() throws Exception {
        String text = drawnText();
        boolean spoil = random.nextInt(3) == 0;
        boolean alike = true;
        if (model.count(7) > 0) {
            alike = both("ministry") && both("fault");
        }
        for (char c : (spoil ? spoilt(text) : text).toCharArray()) {
            alike = alike && both("feed", c);
        }
        return alike && both("ministry") && both("fault") && both("count", 1) && both("count", 6) && both("count", 7);
    }

    private boolean tellOrder() throws Exception {
        int chairs = model.hall().chairs.size();
        List<Integer> order = new ArrayList<>();
        for (PlainModel.Chair c : model.hall().order()) {
            order.add(c.number);
        }
        int draw = random.nextInt(4);
        if (draw == 0) {
            Collections.shuffle(order, random);
        } else if (chairs > 1 && draw < 3) {
            int at = random.nextInt(chairs - 1);
            Collections.swap(order, at, at + 1);
        }
        int row = random.nextInt(3), from = random.nextInt(2);
        boolean alike = both("row", row, random.nextInt(3), chairs + from);
        for (int k = 0; k < chairs; k++) {
            alike = alike && both("set", row, from + k, order.get(k));
        }
        return alike && both("sawdust", row, from) && both("pile", row, from) && both("status");
    }

    /** A row that comes true by some change, so that there is something to be found. */
    private boolean tellHighs() throws Exception {
        int chairs = model.hall().chairs.size();
        if (chairs == 0) {
            return true;
        }
        PlainModel.Hall hall = model.hall().twin();
        PlainModel.Chair changed = hall.chairs.get(random.nextInt(chairs));
        switch (random.nextInt(5)) {
            case 0: changed.sort = 1 + random.nextInt(5); break;
            case 1: changed.saw = random.nextInt(10); break;
            case 2: changed.grudge = random.nextInt(4); break;
            case 3: changed.watched = true; break;
            default: break;
        }
        int row = random.nextInt(3), n = 1 + random.nextInt(random.nextBoolean() ? 12 : 4), from = random.nextInt(3);
        int seen = random.nextInt(2) == 0 ? changed.number : random.nextInt(chairs);
        boolean alike = both("row", row, random.nextInt(3), from + n);
        for (int k = 0; k < n; k++) {
            hall = hall.next();
            alike = alike && both("set", row, from + k, hall.chairs.get(seen).high());
        }
        for (int which = 0; which < 3; which++) {
            alike = alike && both("who", changed.number, which, seen, row, from, n);
        }
        return alike && both("who", random.nextInt(chairs), random.nextInt(3), seen, row, from, n)
            && both("guarded", seen, row, from, n) && both("status");
    }

    private boolean bothLook() throws Exception {
        boolean alike = true;
        for (int what = 0; what < 8; what++) {
            alike = alike && both("count", what);
        }
        int chair = number("CHAIR");
        for (int what = 0; what < 9; what++) {
            alike = alike && both("chair", chair, what);
        }
        for (int what = 0; what < 2; what++) {
            alike = alike && both("ask", chair, what);
            for (int i = -1; i < 7; i++) {
                alike = alike && both("trace", i);
            }
        }
        return alike;
    }
}
