import java.util.Arrays;

/**
 * A ministry in which one's rank is how high one sits. Refusals and findings are answers, never
 * exceptions; the document (../shared/DOC.md) numbers what each call promises.
 */
public final class ChairRanks {
    public static final int NONE = -1000000, BAD = -1000001, STATE = -1000002, FULL = -1000003;

    private static final int FINDING = -1000010, FAULT = -1000100;
    private static final int FOUND_NULL = 1, FOUND_PLACE = 2, FOUND_KIND = 3, FOUND_SIZE = 4, FOUND_STORE = 5;
    private static final int MOST_ROWS = 8, MOST_ITEMS = 40, MOST_LANE = 2;
    private static final int MOST_BYTES = 120, MOST_ACTS = 24, MOST_IMAGES = 2, MOST_TRACES = 16;
    private static final int MOST_CHAIRS = 6, MOST_RANK = 5;
    private static final int MOST_LEG = 60, MOST_SAW = 9, MOST_GRUDGE = 3, MOST_CUSHIONS = 20;
    private static final int MOST_NIGHT = 999, MOST_NIGHTS_DONE = 24;
    private static final int FAR_NIGHTS = 60, NEAR_NIGHTS = 30, TOLD_NIGHTS = 12;
    private static final int MOST_SEED = 999999;
    private static final int AS_IT_IS = 64;

    private static final int PLAIN = 1, ROCKER = 2, CUSHIONED = 3, OAK = 4, THRONE = 5;
    private static final String SORTS = "prcot";
    private static final int[] KIND_ABOVE = {NONE, 0, PLAIN, PLAIN, 0, OAK};

    /** Numbers that a ministry is made of: five of its own, and six of each chair. */
    private static final int OWN_CELLS = 5, CELLS = OWN_CELLS + 6 * MOST_CHAIRS;

    private final Row[] rows = new Row[MOST_ROWS];
    private final Tape tape = new Tape();
    private final Ministry now = new Ministry();
    private final Ministry plan = new Ministry();
    private final int[] present = new int[CELLS];
    private final int[] told = new int[MOST_CHAIRS];
    private final History acts = new History();
    private final int[][] images = new int[MOST_IMAGES][CELLS];
    private final Asks asks = new Asks();
    private int imagesKept;
    private int latestFault;
    private int latestFinding;

    public ChairRanks() {
        for (int k = 0; k < MOST_ROWS; k++) {
            rows[k] = new Row();
        }
    }

    // ---- rows

    public int row(int row, int lane, int n) {
        if (!isRow(row) || !within(lane, 0, MOST_LANE) || n > MOST_ITEMS) {
            return BAD;
        }
        if (n < 0) {
            return found(FOUND_SIZE);
        }
        rows[row].begin(lane, n);
        return nothingFound(n);
    }

    public int set(int row, int i, int v) {
        if (!isRow(row)) {
            return BAD;
        }
        int finding = findingOfItems(row, i, 1);
        if (finding != 0) {
            return found(finding);
        }
        return nothingFound(rows[row].put(i, v));
    }

    public int copy(int a, int i, int b, int j, int n) {
        if (!isRow(a) || !isRow(b)) {
            return BAD;
        }
        Row from = rows[a];
        Row to = rows[b];
        if (from.isMissing() || to.isMissing()) {
            return found(FOUND_NULL);
        }
        if (from.lane != to.lane) {
            return found(FOUND_STORE);
        }
        if (!from.holds(i, n) || !to.holds(j, n)) {
            return found(FOUND_PLACE);
        }
        System.arraycopy(from.items, i, to.items, j, n);
        return nothingFound(n);
    }

    public int drop(int row) {
        if (!isRow(row)) {
            return BAD;
        }
        if (rows[row].isMissing()) {
            return found(FOUND_NULL);
        }
        return nothingFound(rows[row].end());
    }

    // ---- what is told

    public int feed(int letter) {
        if (!within(letter, 0, 255)) {
            return BAD;
        }
        return tape.add(letter) ? tape.size : FULL;
    }

    public int ministry() {
        int fault = tape.readInto(plan);
        tape.size = 0;
        if (fault != 0) {
            latestFault = fault;
            return FAULT - tape.place;
        }
        plan.writeTo(present);
        now.readFrom(present);
        acts.forget();
        return now.size;
    }

    public int fault() {
        return latestFault;
    }

    public int undo() {
        return acts.takeBack(now) ? acts.held : STATE;
    }

    // ---- what is done

    public int nights(int n) {
        if (isEmpty()) {
            return STATE;
        }
        if (!within(n, 1, MOST_NIGHTS_DONE)) {
            return BAD;
        }
        if (now.night + n > MOST_NIGHT) {
            return FULL;
        }
        for (int k = 0; k < n; k++) {
            acts.keep(now);
            now.passNight();
        }
        return now.atRank(0);
    }

    public int cushions(int chair, int n) {
        if (!isChair(chair) || !within(n, 0, MOST_CUSHIONS)) {
            return BAD;
        }
        acts.keep(now);
        int before = now.cushions[chair];
        now.cushions[chair] = n;
        return before;
    }

    public int mend(int chair) {
        if (!isChair(chair)) {
            return BAD;
        }
        if (now.leg[chair] >= MOST_LEG) {
            return FULL;
        }
        acts.keep(now);
        now.glueLeg(chair);
        return now.leg[chair];
    }

    public int watch(int chair, int on) {
        if (!isChair(chair) || !within(on, 0, 1)) {
            return BAD;
        }
        if (now.isWatched(chair) == (on == 1)) {
            return STATE;
        }
        if (on == 1 && Integer.bitCount(now.watched) >= now.watchmen) {
            return FULL;
        }
        acts.keep(now);
        now.watched ^= 1 << chair;
        return now.watched;
    }

    public int change(int chair, int other) {
        if (!isChair(chair) || !isChair(other) || chair == other) {
            return BAD;
        }
        acts.keep(now);
        now.exchangeSitters(chair, other);
        return now.preyOf(chair);
    }

    public int saw(int sitter, int n) {
        if (!isChair(sitter) || !within(n, 0, MOST_SAW)) {
            return BAD;
        }
        acts.keep(now);
        int before = now.saw[sitter];
        now.saw[sitter] = n;
        return before;
    }

    public int chair(int chair, int what) {
        if (!isChair(chair)) {
            return BAD;
        }
        switch (what) {
            case 0:
                return now.leg[chair];
            case 1:
                return now.cushions[chair];
            case 2:
                return now.highOf(chair);
            case 3:
                return now.rankOf(chair);
            case 4:
                return now.isWatched(chair) ? 1 : 0;
            case 5:
                return now.saw[chair];
            case 6:
                return now.grudge[chair];
            case 7:
                return now.preyOf(chair);
            case 8:
                return now.caught[chair];
            default:
                return BAD;
        }
    }

    public int ranked(int r) {
        return isChair(r) ? now.atRank(r) : BAD;
    }

    // ---- foretold

    public int ahead(int chair, int n, int what) {
        if (!isChair(chair) || !within(n, 0, FAR_NIGHTS) || !within(what, 0, 2)) {
            return BAD;
        }
        foresee();
        plan.passNights(n);
        if (what == 0) {
            return plan.highOf(chair);
        }
        return what == 1 ? plan.rankOf(chair) : plan.leg[chair];
    }

    public int minister(int n) {
        if (isEmpty()) {
            return STATE;
        }
        if (!within(n, 0, FAR_NIGHTS)) {
            return BAD;
        }
        foresee();
        plan.passNights(n);
        return plan.atRank(0);
    }

    public int floor(int chair) {
        if (!isChair(chair)) {
            return BAD;
        }
        foresee();
        for (int k = 0; k <= FAR_NIGHTS; k++) {
            if (plan.leg[chair] == 0) {
                return k;
            }
            if (!plan.passNight()) {
                return NONE;
            }
        }
        return NONE;
    }

    public int rises(int chair, int r) {
        if (!isChair(chair) || !within(r, 0, MOST_RANK)) {
            return BAD;
        }
        foresee();
        for (int k = 0; k <= FAR_NIGHTS; k++) {
            if (plan.rankOf(chair) <= r) {
                return k;
            }
            if (!plan.passNight()) {
                return NONE;
            }
        }
        return NONE;
    }

    public int calm() {
        if (isEmpty()) {
            return STATE;
        }
        foresee();
        for (int k = 0; k <= FAR_NIGHTS; k++) {
            if (!plan.passNight()) {
                return k;
            }
        }
        return NONE;
    }

    public int cushionFor(int chair, int r, int n) {
        if (!isChair(chair) || !within(r, 0, MOST_RANK) || !within(n, 0, NEAR_NIGHTS)) {
            return BAD;
        }
        for (int many = 0; many <= MOST_CUSHIONS; many++) {
            foresee();
            plan.cushions[chair] = many;
            plan.passNights(n);
            if (plan.rankOf(chair) <= r) {
                return many;
            }
        }
        return NONE;
    }

    public int guard(int chair, int r, int n, int what) {
        if (!isChair(chair) || !within(r, 0, MOST_RANK) || !within(n, 0, NEAR_NIGHTS) || !within(what, 0, 1)) {
            return BAD;
        }
        int group = fewestToWatch(chair, r, n);
        return group == NONE || what == 1 ? group : Integer.bitCount(group);
    }

    public int bestWatch(int n, int what) {
        if (isEmpty()) {
            return STATE;
        }
        if (!within(n, 1, NEAR_NIGHTS) || !within(what, 0, 1)) {
            return BAD;
        }
        int most = -1;
        int which = NONE;
        for (int one = 0; one < now.size; one++) {
            passWatched(n, 1 << one);
            int legs = plan.allLegs();
            if (legs > most) {
                most = legs;
                which = one;
            }
        }
        return what == 0 ? which : most;
    }

    public int sawdust(int row, int i) {
        int refused = refusalOfOrder(row, i);
        return refused != 0 ? refused : nothingFound(leastSawdust());
    }

    public int pile(int row, int i) {
        int refused = refusalOfOrder(row, i);
        return refused != 0 ? refused : nothingFound(fewestCushions());
    }

    public int climb(int chair) {
        if (!isChair(chair)) {
            return BAD;
        }
        int first = now.atRank(0);
        int gap = now.highOf(first) - now.highOf(chair);
        return first < chair ? gap + 1 : gap;
    }

    public int coalition(int what) {
        if (isEmpty()) {
            return STATE;
        }
        if (!within(what, 0, 1)) {
            return BAD;
        }
        int group = fewestAboveHalf();
        return group == NONE || what == 1 ? group : Integer.bitCount(group);
    }

    public int sawnBy(int chair) {
        if (!isChair(chair)) {
            return BAD;
        }
        int bits = 0;
        for (int sitter = 0; sitter < now.size; sitter++) {
            if (now.preyOf(sitter) == chair) {
                bits |= 1 << sitter;
            }
        }
        return bits;
    }

    public int round() {
        if (isEmpty()) {
            return STATE;
        }
        int bits = 0;
        for (int sitter = 0; sitter < now.size; sitter++) {
            int prey = now.preyOf(sitter);
            if (prey != NONE && now.preyOf(prey) == sitter) {
                bits |= 1 << sitter;
            }
        }
        return bits;
    }

    public int enemy(int chair, int n, int what) {
        if (!isChair(chair) || !within(n, 1, NEAR_NIGHTS) || !within(what, 0, 1)) {
            return BAD;
        }
        int highest = -1;
        int which = NONE;
        for (int sitter = 0; sitter < now.size; sitter++) {
            foresee();
            plan.saw[sitter] = 0;
            plan.passNights(n);
            int high = plan.highOf(chair);
            if (high > highest) {
                highest = high;
                which = sitter;
            }
        }
        return what == 0 ? which : highest;
    }

    public int who(int chair, int which, int other, int row, int i, int n) {
        if (!isChair(chair) || !within(which, 0, 2) || !isChair(other) || !isRow(row) || !within(n, 1, TOLD_NIGHTS)) {
            return BAD;
        }
        int finding = findingOfItems(row, i, n);
        if (finding != 0) {
            return found(finding);
        }
        int bits = 0;
        for (int value = leastOf(which); value <= mostOf(which); value++) {
            foresee();
            suppose(chair, which, value);
            if (comesTrue(other, rows[row], i, n)) {
                bits |= 1 << value;
            }
        }
        return nothingFound(bits);
    }

    public int guarded(int chair, int row, int i, int n) {
        if (!isChair(chair) || !isRow(row) || !within(n, 1, TOLD_NIGHTS)) {
            return BAD;
        }
        int finding = findingOfItems(row, i, n);
        if (finding != 0) {
            return found(finding);
        }
        foresee();
        int bits = comesTrue(chair, rows[row], i, n) ? AS_IT_IS : 0;
        for (int one = 0; one < now.size; one++) {
            if (now.isWatched(one)) {
                continue;
            }
            foresee();
            plan.watched |= 1 << one;
            if (comesTrue(chair, rows[row], i, n)) {
                bits |= 1 << one;
            }
        }
        return nothingFound(bits);
    }

    public long doze(int chair, int r, int n, int p, int what) {
        if (!isChair(chair) || !within(r, 0, MOST_RANK) || !within(n, 0, NEAR_NIGHTS)
                || !within(p, 0, 10) || !within(what, 0, 1)) {
            return BAD;
        }
        long above = 0;
        long below = 0;
        for (int awake = 0; awake < 1 << now.size; awake++) {
            if ((awake & ~now.watched) != 0) {
                continue;
            }
            long weight = weightOf(awake, p);
            below += weight;
            if (weight > 0 && rankIfWatched(chair, n, awake) <= r) {
                above += weight;
            }
        }
        long common = commonDivisor(above, below);
        if (common == 0) {
            return what;
        }
        return what == 0 ? above / common : below / common;
    }

    public int drawn(int n, int seed, int what) {
        if (isEmpty()) {
            return STATE;
        }
        if (!within(n, 0, FAR_NIGHTS) || !within(seed, 1, MOST_SEED) || !within(what, 0, 1)) {
            return BAD;
        }
        foresee();
        long x = seed;
        for (int k = 0; k < n; k++) {
            x = x * 16807 % 2147483647;
            int one = (int) (x % now.size);
            plan.watched = 1 << one;
            if (x % 5 == 0) {
                plan.glueLeg(one);
            }
            plan.passNight();
        }
        return what == 0 ? plan.atRank(0) : plan.allLegs();
    }

    public int image(int k) {
        if (!within(k, 0, MOST_IMAGES - 1)) {
            return BAD;
        }
        if (isEmpty()) {
            return STATE;
        }
        now.writeTo(images[k]);
        imagesKept |= 1 << k;
        return 1;
    }

    public int restore(int k) {
        if (!within(k, 0, MOST_IMAGES - 1)) {
            return BAD;
        }
        if ((imagesKept >> k & 1) == 0) {
            return STATE;
        }
        now.readFrom(images[k]);
        acts.forget();
        return 1;
    }

    // ---- asked

    public int kind(int one) {
        return isChair(one) ? now.sort[one] : BAD;
    }

    public int as(int one, int kind) {
        if (!isChair(one) || !within(kind, 0, THRONE)) {
            return BAD;
        }
        return isOfKind(now.sort[one], kind) ? nothingFound(one) : found(FOUND_KIND);
    }

    public int ask(int one, int what) {
        if (!isChair(one) || !within(what, 0, 1)) {
            return BAD;
        }
        asks.size = 0;
        return what == 0 ? asks.sizeOf(now, one, 0) : asks.markOf(now, one, 0);
    }

    public int trace(int i) {
        return i >= 0 && i < asks.size ? asks.numbers[i] : NONE;
    }

    public int count(int what) {
        switch (what) {
            case 0:
                return rowsThere();
            case 1:
                return now.size;
            case 2:
                return now.night;
            case 3:
                return now.watched;
            case 4:
                return now.allLegs();
            case 5:
                return now.allCaught();
            case 6:
                return acts.held;
            case 7:
                return tape.size;
            default:
                return BAD;
        }
    }

    public int status() {
        return latestFinding;
    }

    // ---- what the calls share

    private static boolean within(int v, int least, int most) {
        return v >= least && v <= most;
    }

    private static boolean isRow(int row) {
        return within(row, 0, MOST_ROWS - 1);
    }

    private boolean isChair(int chair) {
        return within(chair, 0, now.size - 1);
    }

    private boolean isEmpty() {
        return now.size < 1;
    }

    private int found(int finding) {
        latestFinding = finding;
        return FINDING - finding;
    }

    private int nothingFound(int answer) {
        latestFinding = 0;
        return answer;
    }

    private int findingOfItems(int row, int i, int n) {
        if (rows[row].isMissing()) {
            return FOUND_NULL;
        }
        return rows[row].holds(i, n) ? 0 : FOUND_PLACE;
    }

    /** The answer that sawdust and pile give, if there is no order to reckon with; else 0. */
    private int refusalOfOrder(int row, int i) {
        if (isEmpty()) {
            return STATE;
        }
        if (!isRow(row)) {
            return BAD;
        }
        int finding = findingOfOrder(row, i);
        return finding != 0 ? found(finding) : 0;
    }

    /** Leaves the order in told, if there is one, so that it is looked at but once. */
    private int findingOfOrder(int row, int i) {
        int finding = findingOfItems(row, i, now.size);
        if (finding != 0) {
            return finding;
        }
        int seen = 0;
        for (int k = 0; k < now.size; k++) {
            int one = rows[row].items[i + k];
            if (!isChair(one) || (seen >> one & 1) != 0) {
                return FOUND_KIND;
            }
            seen |= 1 << one;
            told[k] = one;
        }
        return 0;
    }

    private int rowsThere() {
        int many = 0;
        for (int k = 0; k < MOST_ROWS; k++) {
            if (!rows[k].isMissing()) {
                many++;
            }
        }
        return many;
    }

    private static boolean isOfKind(int sort, int kind) {
        int at = sort;
        for (int k = 0; k < KIND_ABOVE.length && within(at, 0, KIND_ABOVE.length - 1); k++) {
            if (at == kind) {
                return true;
            }
            at = KIND_ABOVE[at];
        }
        return false;
    }

    /** The plan begins as the ministry is now, so that what is foretold changes nothing. */
    private void foresee() {
        now.writeTo(present);
        plan.readFrom(present);
    }

    private void passWatched(int n, int watched) {
        foresee();
        plan.watched = watched;
        plan.passNights(n);
    }

    private int rankIfWatched(int chair, int n, int watched) {
        passWatched(n, watched);
        return plan.rankOf(chair);
    }

    /**
     * From the minister down each keeps as much of his leg as the one above allows: who sits higher
     * never leaves less room below, so no other way takes less.
     */
    private int leastSawdust() {
        foresee();
        int dust = 0;
        for (int k = 1; k < now.size; k++) {
            int one = told[k];
            while (plan.leg[one] > 0 && !plan.isHigher(told[k - 1], one)) {
                plan.leg[one]--;
                dust++;
            }
            if (!plan.isHigher(told[k - 1], one)) {
                return NONE;
            }
        }
        return dust;
    }

    /** From the last one up each gets as few as the one below allows, for the same reason. */
    private int fewestCushions() {
        foresee();
        int many = 0;
        for (int k = now.size - 2; k >= 0; k--) {
            int one = told[k];
            while (plan.cushions[one] < MOST_CUSHIONS && !plan.isHigher(one, told[k + 1])) {
                plan.cushions[one]++;
                many++;
            }
            if (!plan.isHigher(one, told[k + 1])) {
                return NONE;
            }
        }
        return many;
    }

    private int fewestToWatch(int chair, int r, int n) {
        for (int many = 0; many <= now.size; many++) {
            for (int group = 0; group < 1 << now.size; group++) {
                if (Integer.bitCount(group) == many && rankIfWatched(chair, n, group) <= r) {
                    return group;
                }
            }
        }
        return NONE;
    }

    private int fewestAboveHalf() {
        int all = highTogether((1 << now.size) - 1);
        for (int many = 0; many <= now.size; many++) {
            for (int group = 0; group < 1 << now.size; group++) {
                if (Integer.bitCount(group) == many && 2 * highTogether(group) > all) {
                    return group;
                }
            }
        }
        return NONE;
    }

    private int highTogether(int group) {
        int sum = 0;
        for (int one = 0; one < now.size; one++) {
            if ((group >> one & 1) != 0) {
                sum += now.highOf(one);
            }
        }
        return sum;
    }

    private static int leastOf(int which) {
        return which == 0 ? PLAIN : 0;
    }

    private static int mostOf(int which) {
        if (which == 0) {
            return THRONE;
        }
        return which == 1 ? MOST_SAW : MOST_GRUDGE;
    }

    private void suppose(int chair, int which, int value) {
        if (which == 0) {
            plan.sort[chair] = value;
        } else if (which == 1) {
            plan.saw[chair] = value;
        } else {
            plan.grudge[chair] = value;
        }
    }

    private boolean comesTrue(int chair, Row row, int i, int n) {
        for (int k = 0; k < n; k++) {
            plan.passNight();
            if (plan.highOf(chair) != row.items[i + k]) {
                return false;
            }
        }
        return true;
    }

    /** In how many of ten to the power of the watched chairs just these watchmen are awake. */
    private long weightOf(int awake, int p) {
        long weight = 1;
        for (int one = 0; one < now.size; one++) {
            if (now.isWatched(one)) {
                weight *= (awake >> one & 1) != 0 ? 10 - p : p;
            }
        }
        return weight;
    }

    private static long commonDivisor(long a, long b) {
        long x = a;
        long y = b;
        for (int k = 0; k < 100 && y != 0; k++) {
            long rest = x % y;
            x = y;
            y = rest;
        }
        return x;
    }

    /** Items of all lanes are kept as ints, cut to the lane as they come in. */
    private static final class Row {
        private static final int MISSING = -1;

        final int[] items = new int[MOST_ITEMS];
        int lane = MISSING;
        private int size;

        boolean isMissing() {
            return lane == MISSING;
        }

        void begin(int newLane, int n) {
            lane = newLane;
            size = n;
            Arrays.fill(items, 0);
        }

        int end() {
            lane = MISSING;
            return size;
        }

        boolean holds(int i, int n) {
            return i >= 0 && n >= 0 && i <= size - n;
        }

        int put(int i, int v) {
            items[i] = lane == 0 ? (byte) v : lane == 1 ? (short) v : v;
            return items[i];
        }
    }

    /** What is told comes byte by byte; the first flaw stops the reading at its token's place. */
    private static final class Tape {
        private static final int MISPLACED = 1, UNFIT = 2, NO_ROOM = 3;

        private final int[] bytes = new int[MOST_BYTES];
        int size;
        int place;
        private int flaw;

        boolean add(int letter) {
            if (size >= MOST_BYTES) {
                return false;
            }
            bytes[size] = letter;
            size++;
            return true;
        }

        int readInto(Ministry ministry) {
            place = 0;
            flaw = 0;
            ministry.clear();
            readLaw(ministry);
            // A chair more than there is room for is still begun, for its letter is the flaw.
            for (int k = 0; k <= MOST_CHAIRS && flaw == 0 && (k == 0 || place < size); k++) {
                readOneChair(ministry);
            }
            return flaw;
        }

        private void readLaw(Ministry ministry) {
            takeSign('m');
            ministry.watchmen = takeNumber(0, 5);
            takeSign(',');
            ministry.glue = takeNumber(1, 9);
            takeSign(';');
        }

        private void readOneChair(Ministry ministry) {
            int sort = place < size ? SORTS.indexOf((char) bytes[place]) + 1 : 0;
            if (sort == 0) {
                flaw = MISPLACED;
                return;
            }
            if (ministry.size >= MOST_CHAIRS) {
                flaw = NO_ROOM;
                return;
            }
            place++;
            int leg = takeNumber(0, MOST_LEG);
            takeSign(',');
            int saw = takeNumber(0, MOST_SAW);
            takeSign(',');
            int grudge = takeNumber(0, MOST_GRUDGE);
            takeSign(';');
            if (flaw == 0) {
                ministry.addOne(sort, leg, saw, grudge);
            }
        }

        private void takeSign(int sign) {
            if (flaw != 0) {
                return;
            }
            if (place < size && bytes[place] == sign) {
                place++;
            } else {
                flaw = MISPLACED;
            }
        }

        private int takeNumber(int least, int most) {
            if (flaw != 0) {
                return 0;
            }
            int value = 0;
            int end = place;
            while (end < size && end - place < 3 && within(bytes[end], '0', '9')) {
                value = value * 10 + bytes[end] - '0';
                end++;
            }
            int figures = end - place;
            if (figures < 1 || figures > 2) {
                flaw = MISPLACED;
                return 0;
            }
            if (!within(value, least, most)) {
                flaw = UNFIT;
                return 0;
            }
            place = end;
            return value;
        }
    }

    /** The chairs as they stand, now or foreseen; none, if size is 0. */
    private static final class Ministry {
        int size;
        int watchmen;
        int glue;
        int night;
        int watched;
        final int[] sort = new int[MOST_CHAIRS];
        final int[] leg = new int[MOST_CHAIRS];
        final int[] cushions = new int[MOST_CHAIRS];
        final int[] saw = new int[MOST_CHAIRS];
        final int[] grudge = new int[MOST_CHAIRS];
        final int[] caught = new int[MOST_CHAIRS];
        private final int[] high = new int[MOST_CHAIRS];
        private final int[] rank = new int[MOST_CHAIRS];
        private final int[] order = new int[MOST_CHAIRS];

        void clear() {
            size = 0;
            night = 0;
            watched = 0;
        }

        void addOne(int newSort, int newLeg, int newSaw, int newGrudge) {
            if (size >= MOST_CHAIRS) {
                return;
            }
            sort[size] = newSort;
            leg[size] = newLeg;
            cushions[size] = 0;
            saw[size] = newSaw;
            grudge[size] = newGrudge;
            caught[size] = 0;
            size++;
        }

        void writeTo(int[] cells) {
            cells[0] = size;
            cells[1] = watchmen;
            cells[2] = glue;
            cells[3] = night;
            cells[4] = watched;
            System.arraycopy(sort, 0, cells, OWN_CELLS, MOST_CHAIRS);
            System.arraycopy(leg, 0, cells, OWN_CELLS + MOST_CHAIRS, MOST_CHAIRS);
            System.arraycopy(cushions, 0, cells, OWN_CELLS + 2 * MOST_CHAIRS, MOST_CHAIRS);
            System.arraycopy(saw, 0, cells, OWN_CELLS + 3 * MOST_CHAIRS, MOST_CHAIRS);
            System.arraycopy(grudge, 0, cells, OWN_CELLS + 4 * MOST_CHAIRS, MOST_CHAIRS);
            System.arraycopy(caught, 0, cells, OWN_CELLS + 5 * MOST_CHAIRS, MOST_CHAIRS);
        }

        void readFrom(int[] cells) {
            size = cells[0];
            watchmen = cells[1];
            glue = cells[2];
            night = cells[3];
            watched = cells[4];
            System.arraycopy(cells, OWN_CELLS, sort, 0, MOST_CHAIRS);
            System.arraycopy(cells, OWN_CELLS + MOST_CHAIRS, leg, 0, MOST_CHAIRS);
            System.arraycopy(cells, OWN_CELLS + 2 * MOST_CHAIRS, cushions, 0, MOST_CHAIRS);
            System.arraycopy(cells, OWN_CELLS + 3 * MOST_CHAIRS, saw, 0, MOST_CHAIRS);
            System.arraycopy(cells, OWN_CELLS + 4 * MOST_CHAIRS, grudge, 0, MOST_CHAIRS);
            System.arraycopy(cells, OWN_CELLS + 5 * MOST_CHAIRS, caught, 0, MOST_CHAIRS);
        }

        boolean isWatched(int one) {
            return (watched >> one & 1) != 0;
        }

        int highOf(int one) {
            int sum = leg[one] + cushions[one];
            switch (sort[one]) {
                case ROCKER:
                    return sum - (sum & 1);
                case CUSHIONED:
                    return sum + cushions[one];
                case OAK:
                    return leg[one];
                case THRONE:
                    return leg[one] > 0 ? leg[one] + 5 : 0;
                default:
                    return sum;
            }
        }

        boolean isHigher(int one, int other) {
            int gap = highOf(one) - highOf(other);
            return gap > 0 || gap == 0 && one < other;
        }

        int rankOf(int one) {
            reckonRanks();
            return rank[one];
        }

        int atRank(int r) {
            reckonRanks();
            return order[r];
        }

        /** Whose chair a sitter would saw, or NONE. */
        int preyOf(int sitter) {
            reckonRanks();
            return preyByRanks(sitter);
        }

        int allLegs() {
            int sum = 0;
            for (int one = 0; one < size; one++) {
                sum += leg[one];
            }
            return sum;
        }

        int allCaught() {
            int sum = 0;
            for (int one = 0; one < size; one++) {
                sum += caught[one];
            }
            return sum;
        }

        void glueLeg(int one) {
            leg[one] = Math.min(MOST_LEG, leg[one] + glue);
        }

        void exchangeSitters(int one, int other) {
            exchange(saw, one, other);
            exchange(grudge, one, other);
            exchange(caught, one, other);
        }

        private static void exchange(int[] of, int one, int other) {
            int kept = of[one];
            of[one] = of[other];
            of[other] = kept;
        }

        private void reckonRanks() {
            for (int one = 0; one < size; one++) {
                high[one] = highOf(one);
                rank[one] = 0;
            }
            for (int one = 0; one < size; one++) {
                for (int later = one + 1; later < size; later++) {
                    if (high[later] > high[one]) {
                        rank[one]++;
                    } else {
                        rank[later]++;
                    }
                }
            }
            for (int one = 0; one < size; one++) {
                order[rank[one]] = one;
            }
        }

        /** By the ranks reckoned last, which a night keeps while it saws. */
        private int preyByRanks(int sitter) {
            if (saw[sitter] < 1) {
                return NONE;
            }
            boolean isFirst = rank[sitter] == 0;
            switch (grudge[sitter]) {
                case 1:
                    return isFirst ? NONE : order[rank[sitter] - 1];
                case 2:
                    return isFirst ? NONE : order[0];
                case 3:
                    return size < 2 ? NONE : sitter + 1 < size ? sitter + 1 : 0;
                default:
                    return NONE;
            }
        }

        /** Whether a leg is less by it. */
        boolean passNight() {
            reckonRanks();
            boolean isLess = false;
            for (int sitter = 0; sitter < size; sitter++) {
                int prey = preyByRanks(sitter);
                if (prey == NONE) {
                    continue;
                }
                if (isWatched(prey)) {
                    caught[sitter]++;
                    saw[sitter]--;
                } else if (sawLeg(prey, saw[sitter])) {
                    isLess = true;
                }
            }
            night++;
            return isLess;
        }

        private boolean sawLeg(int one, int by) {
            boolean isHard = sort[one] == OAK || sort[one] == THRONE;
            int before = leg[one];
            leg[one] = Math.max(0, before - (isHard ? by / 2 : by));
            return leg[one] < before;
        }

        /**
         * For plans alone: behind a night by which no leg is less ranks stay, and with them whom each
         * would saw, so that no later night takes anything either and need not be gone through.
         */
        void passNights(int n) {
            for (int k = 0; k < n; k++) {
                if (!passNight()) {
                    return;
                }
            }
        }
    }

    /** The ministry as it was ahead of each act; the oldest gives way to a new one. */
    private static final class History {
        private final int[][] kept = new int[MOST_ACTS][CELLS];
        private int oldest;
        int held;

        void keep(Ministry ministry) {
            ministry.writeTo(kept[(oldest + held) % MOST_ACTS]);
            if (held < MOST_ACTS) {
                held++;
            } else {
                oldest = (oldest + 1) % MOST_ACTS;
            }
        }

        boolean takeBack(Ministry ministry) {
            if (held < 1) {
                return false;
            }
            held--;
            ministry.readFrom(kept[(oldest + held) % MOST_ACTS]);
            return true;
        }

        void forget() {
            held = 0;
        }
    }

    /**
     * The bodies of the asks; depth is carried because size and mark ask one another. Bodies that no
     * other one lends from stand where they are chosen, so that calls do not go deeper than they may.
     */
    private static final class Asks {
        private static final int DEEPEST = 8;

        final int[] numbers = new int[MOST_TRACES];
        int size;

        private int sizeOf(Ministry of, int one, int depth) {
            if (depth > DEEPEST) {
                return 0;
            }
            switch (of.sort[one]) {
                case PLAIN:
                case CUSHIONED:
                    return plainSize(of, one, depth);
                case ROCKER:
                    begin(12);
                    return -plainSize(of, one, depth);
                case OAK:
                    return oakSize(of, one);
                case THRONE:
                    begin(14);
                    return 2 * oakSize(of, one);
                default:
                    return lentSize(of, one);
            }
        }

        private int markOf(Ministry of, int one, int depth) {
            if (depth > DEEPEST) {
                return 0;
            }
            switch (of.sort[one]) {
                case PLAIN:
                    return plainMark(of, one);
                case ROCKER:
                    begin(24);
                    return 2 * plainMark(of, one);
                case CUSHIONED:
                    begin(22);
                    return plainMark(of, one) - 1000;
                case OAK:
                case THRONE:
                    return oakMark(of, one, depth);
                default:
                    return lentMark(one);
            }
        }

        private void begin(int number) {
            if (size < MOST_TRACES) {
                numbers[size] = number;
                size++;
            }
        }

        private int lentSize(Ministry of, int one) {
            begin(10);
            return of.leg[one];
        }

        private int plainSize(Ministry of, int one, int depth) {
            begin(11);
            int lent = lentSize(of, one);
            return lent + markOf(of, one, depth + 1);
        }

        private int oakSize(Ministry of, int one) {
            begin(13);
            return lentSize(of, one) - 100;
        }

        private int lentMark(int one) {
            begin(20);
            return one;
        }

        private int plainMark(Ministry of, int one) {
            begin(21);
            return lentMark(one) + of.cushions[one];
        }

        private int oakMark(Ministry of, int one, int depth) {
            begin(23);
            int lent = lentMark(one);
            return lent - sizeOf(of, one, depth + 1);
        }
    }
}
