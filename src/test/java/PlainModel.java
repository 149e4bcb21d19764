import java.math.BigInteger;
import java.util.ArrayDeque;
import java.util.ArrayList;
import java.util.Comparator;
import java.util.Deque;
import java.util.List;

/**
 * The document once more, in another and slower way than the class: whole copies instead of rows
 * used again, sorting instead of counting, trying all instead of being clever. The random runs
 * compare the two.
 */
public final class PlainModel {
    static final int NONE = -1000000, BAD = -1000001, STATE = -1000002, FULL = -1000003;

    static final class Chair {
        final int number;
        int sort, leg, cushions, saw, grudge, caught;
        boolean watched;

        Chair(int number) {
            this.number = number;
        }

        Chair twin() {
            Chair c = new Chair(number);
            c.sort = sort;
            c.leg = leg;
            c.cushions = cushions;
            c.saw = saw;
            c.grudge = grudge;
            c.caught = caught;
            c.watched = watched;
            return c;
        }

        int high() {
            if (sort == 1) return leg + cushions;
            if (sort == 2) return (leg + cushions) / 2 * 2;
            if (sort == 3) return leg + 2 * cushions;
            if (sort == 4) return leg;
            return leg == 0 ? 0 : leg + 5;
        }
    }

    static final class Hall {
        final List<Chair> chairs = new ArrayList<>();
        int watchmen, glue, night;

        Hall twin() {
            Hall h = new Hall();
            for (Chair c : chairs) h.chairs.add(c.twin());
            h.watchmen = watchmen;
            h.glue = glue;
            h.night = night;
            return h;
        }

        List<Chair> order() {
            List<Chair> sorted = new ArrayList<>(chairs);
            sorted.sort(Comparator.comparingInt((Chair c) -> -c.high()).thenComparingInt(c -> c.number));
            return sorted;
        }

        int rank(int one) {
            return order().indexOf(chairs.get(one));
        }

        Chair prey(Chair c) {
            if (c.saw == 0) return null;
            List<Chair> order = order();
            int rank = order.indexOf(c);
            if (c.grudge == 1 && rank > 0) return order.get(rank - 1);
            if (c.grudge == 2 && rank > 0) return order.get(0);
            if (c.grudge == 3 && chairs.size() > 1) return chairs.get((c.number + 1) % chairs.size());
            return null;
        }

        Hall next() {
            Hall h = twin();
            for (Chair c : chairs) {
                Chair prey = prey(c);
                if (prey == null) continue;
                Chair sawn = h.chairs.get(prey.number);
                if (prey.watched) {
                    h.chairs.get(c.number).caught++;
                    h.chairs.get(c.number).saw--;
                } else {
                    int by = prey.sort >= 4 ? c.saw / 2 : c.saw;
                    sawn.leg = Math.max(0, sawn.leg - by);
                }
            }
            h.night++;
            return h;
        }

        Hall behind(int n) {
            Hall h = this;
            for (int k = 0; k < n; k++) h = h.next();
            return h;
        }

        int legs() {
            return chairs.stream().mapToInt(c -> c.leg).sum();
        }

        int watchedBits() {
            int bits = 0;
            for (Chair c : chairs) if (c.watched) bits |= 1 << c.number;
            return bits;
        }

        void watchJust(int bits) {
            for (Chair c : chairs) c.watched = (bits >> c.number & 1) == 1;
        }
    }

    private final long[][] rows = new long[8][];
    private final int[] lanes = new int[8];
    private final StringBuilder tape = new StringBuilder();
    private Hall hall = new Hall();
    private final Deque<Hall> acts = new ArrayDeque<>();
    private final Hall[] images = new Hall[2];
    private final List<Integer> trace = new ArrayList<>();
    private int fault, status;

    Hall hall() {
        return hall;
    }

    private static boolean in(int v, int a, int b) {
        return a <= v && v <= b;
    }

    private boolean chairs(int... cs) {
        for (int c : cs) if (!in(c, 0, hall.chairs.size() - 1)) return false;
        return true;
    }

    private int find(int number) {
        status = number;
        return -1000010 - number;
    }

    private int fine(int answer) {
        status = 0;
        return answer;
    }

    private static boolean fits(long[] row, int i, int n) {
        return i >= 0 && n >= 0 && (long) i + n <= row.length;
    }

    public int row(int row, int lane, int n) {
        if (!in(row, 0, 7) || !in(lane, 0, 2) || n > 40) return BAD;
        if (n < 0) return find(4);
        rows[row] = new long[n];
        lanes[row] = lane;
        return fine(n);
    }

    public int set(int row, int i, int v) {
        if (!in(row, 0, 7)) return BAD;
        if (rows[row] == null) return find(1);
        if (!fits(rows[row], i, 1)) return find(2);
        int bits = lanes[row] == 0 ? 8 : lanes[row] == 1 ? 16 : 32;
        long cut = v & (1L << bits) - 1;
        if (cut >= 1L << bits - 1) cut -= 1L << bits;
        rows[row][i] = cut;
        return fine((int) cut);
    }

    public int copy(int a, int i, int b, int j, int n) {
        if (!in(a, 0, 7) || !in(b, 0, 7)) return BAD;
        if (rows[a] == null || rows[b] == null) return find(1);
        if (lanes[a] != lanes[b]) return find(5);
        if (!fits(rows[a], i, n) || !fits(rows[b], j, n)) return find(2);
        long[] old = rows[a].clone();
        for (int k = 0; k < n; k++) rows[b][j + k] = old[i + k];
        return fine(n);
    }

    public int drop(int row) {
        if (!in(row, 0, 7)) return BAD;
        if (rows[row] == null) return find(1);
        int had = rows[row].length;
        rows[row] = null;
        return fine(had);
    }

    public int feed(int letter) {
        if (!in(letter, 0, 255)) return BAD;
        if (tape.length() == 120) return FULL;
        tape.append((char) letter);
        return tape.length();
    }

    /** Words of the grammar: a sign is itself, a number is its bounds. */
    private static final Object[] LAW = {"m", new int[] {0, 5}, ",", new int[] {1, 9}, ";"};
    private static final Object[] CHAIR = {"prcot", new int[] {0, 60}, ",", new int[] {0, 9}, ",", new int[] {0, 3}, ";"};

    public int ministry() {
        String text = tape.toString();
        tape.setLength(0);
        List<String> tokens = new ArrayList<>();
        List<Integer> places = new ArrayList<>();
        for (int at = 0; at < text.length(); ) {
            int end = at;
            while (end < text.length() && text.charAt(end) >= '0' && text.charAt(end) <= '9') end++;
            if (end == at) end++;
            tokens.add(text.substring(at, end));
            places.add(at);
            at = end;
        }
        tokens.add("");
        places.add(text.length());
        List<Integer> numbers = new ArrayList<>();
        List<Character> sorts = new ArrayList<>();
        for (int t = 0; t < tokens.size(); t++) {
            String token = tokens.get(t);
            boolean law = t < LAW.length;
            int at = law ? t : (t - LAW.length) % CHAIR.length;
            Object word = law ? LAW[at] : CHAIR[at];
            if (token.isEmpty() && !law && at == 0 && t > LAW.length) break;
            int flaw = flaw(token, word);
            if (flaw == 0 && !law && at == 0 && sorts.size() == 6) flaw = 3;
            if (flaw != 0) {
                fault = flaw;
                return -1000100 - places.get(t);
            }
            if (word instanceof int[]) numbers.add(Integer.parseInt(token));
            if (!law && at == 0) sorts.add(token.charAt(0));
        }
        hall = new Hall();
        hall.watchmen = numbers.get(0);
        hall.glue = numbers.get(1);
        for (int k = 0; k < sorts.size(); k++) {
            Chair c = new Chair(k);
            c.sort = "_prcot".indexOf(sorts.get(k));
            c.leg = numbers.get(2 + 3 * k);
            c.saw = numbers.get(3 + 3 * k);
            c.grudge = numbers.get(4 + 3 * k);
            hall.chairs.add(c);
        }
        acts.clear();
        return sorts.size();
    }

    private static int flaw(String token, Object word) {
        if (word instanceof String signs) return token.length() == 1 && signs.contains(token) ? 0 : 1;
        int[] bounds = (int[]) word;
        if (!token.matches("[0-9]{1,2}")) return 1;
        return in(Integer.parseInt(token), bounds[0], bounds[1]) ? 0 : 2;
    }

    public int fault() {
        return fault;
    }

    public int undo() {
        if (acts.isEmpty()) return STATE;
        hall = acts.pop();
        return acts.size();
    }

    private void act() {
        acts.push(hall.twin());
        if (acts.size() > 24) acts.removeLast();
    }

    public int nights(int n) {
        if (hall.chairs.isEmpty()) return STATE;
        if (!in(n, 1, 24)) return BAD;
        if (hall.night + n > 999) return FULL;
        for (int k = 0; k < n; k++) {
            act();
            hall = hall.next();
        }
        return hall.order().get(0).number;
    }

    public int cushions(int chair, int n) {
        if (!chairs(chair) || !in(n, 0, 20)) return BAD;
        act();
        Chair c = hall.chairs.get(chair);
        int was = c.cushions;
        c.cushions = n;
        return was;
    }

    public int mend(int chair) {
        if (!chairs(chair)) return BAD;
        Chair c = hall.chairs.get(chair);
        if (c.leg == 60) return FULL;
        act();
        c.leg = Math.min(c.leg + hall.glue, 60);
        return c.leg;
    }

    public int watch(int chair, int on) {
        if (!chairs(chair) || !in(on, 0, 1)) return BAD;
        Chair c = hall.chairs.get(chair);
        if (c.watched == (on == 1)) return STATE;
        if (on == 1 && Integer.bitCount(hall.watchedBits()) == hall.watchmen) return FULL;
        act();
        c.watched = on == 1;
        return hall.watchedBits();
    }

    public int change(int chair, int other) {
        if (!chairs(chair, other) || chair == other) return BAD;
        act();
        Chair a = hall.chairs.get(chair), b = hall.chairs.get(other), kept = a.twin();
        a.saw = b.saw;
        a.grudge = b.grudge;
        a.caught = b.caught;
        b.saw = kept.saw;
        b.grudge = kept.grudge;
        b.caught = kept.caught;
        return number(hall.prey(a));
    }

    private static int number(Chair c) {
        return c == null ? NONE : c.number;
    }

    public int saw(int sitter, int n) {
        if (!chairs(sitter) || !in(n, 0, 9)) return BAD;
        act();
        Chair c = hall.chairs.get(sitter);
        int was = c.saw;
        c.saw = n;
        return was;
    }

    public int chair(int chair, int what) {
        if (!chairs(chair) || !in(what, 0, 8)) return BAD;
        Chair c = hall.chairs.get(chair);
        int[] all = {c.leg, c.cushions, c.high(), hall.rank(chair), c.watched ? 1 : 0, c.saw, c.grudge,
            number(hall.prey(c)), c.caught};
        return all[what];
    }

    public int ranked(int r) {
        return chairs(r) ? hall.order().get(r).number : BAD;
    }

    public int ahead(int chair, int n, int what) {
        if (!chairs(chair) || !in(n, 0, 60) || !in(what, 0, 2)) return BAD;
        Hall h = hall.behind(n);
        int[] all = {h.chairs.get(chair).high(), h.rank(chair), h.chairs.get(chair).leg};
        return all[what];
    }

    public int minister(int n) {
        if (hall.chairs.isEmpty()) return STATE;
        if (!in(n, 0, 60)) return BAD;
        return hall.behind(n).order().get(0).number;
    }

    public int floor(int chair) {
        if (!chairs(chair)) return BAD;
        for (int k = 0; k <= 60; k++) if (hall.behind(k).chairs.get(chair).leg == 0) return k;
        return NONE;
    }

    public int rises(int chair, int r) {
        if (!chairs(chair) || !in(r, 0, 5)) return BAD;
        for (int k = 0; k <= 60; k++) if (hall.behind(k).rank(chair) <= r) return k;
        return NONE;
    }

    public int calm() {
        if (hall.chairs.isEmpty()) return STATE;
        for (int k = 0; k <= 60; k++) if (hall.behind(k).legs() == hall.behind(k + 1).legs()) return k;
        return NONE;
    }

    public int cushionFor(int chair, int r, int n) {
        if (!chairs(chair) || !in(r, 0, 5) || !in(n, 0, 30)) return BAD;
        for (int many = 0; many <= 20; many++) {
            Hall h = hall.twin();
            h.chairs.get(chair).cushions = many;
            if (h.behind(n).rank(chair) <= r) return many;
        }
        return NONE;
    }

    public int guard(int chair, int r, int n, int what) {
        if (!chairs(chair) || !in(r, 0, 5) || !in(n, 0, 30) || !in(what, 0, 1)) return BAD;
        int best = NONE;
        for (int bits = 0; bits < 1 << hall.chairs.size(); bits++) {
            Hall h = hall.twin();
            h.watchJust(bits);
            if (h.behind(n).rank(chair) > r) continue;
            if (best == NONE || Integer.bitCount(bits) < Integer.bitCount(best)) best = bits;
        }
        return best == NONE || what == 1 ? best : Integer.bitCount(best);
    }

    public int bestWatch(int n, int what) {
        if (hall.chairs.isEmpty()) return STATE;
        if (!in(n, 1, 30) || !in(what, 0, 1)) return BAD;
        int[] legs = new int[hall.chairs.size()];
        int best = 0;
        for (int c = 0; c < legs.length; c++) {
            Hall h = hall.twin();
            h.watchJust(1 << c);
            legs[c] = h.behind(n).legs();
            if (legs[c] > legs[best]) best = c;
        }
        return what == 0 ? best : legs[best];
    }

    public int sawdust(int row, int i) {
        return toldOrder(row, i, true);
    }

    public int pile(int row, int i) {
        return toldOrder(row, i, false);
    }

    private int toldOrder(int row, int i, boolean dust) {
        int size = hall.chairs.size();
        if (size == 0) return STATE;
        if (!in(row, 0, 7)) return BAD;
        if (rows[row] == null) return find(1);
        if (!fits(rows[row], i, size)) return find(2);
        List<Integer> order = new ArrayList<>();
        for (int k = 0; k < size; k++) {
            long one = rows[row][i + k];
            if (one < 0 || one >= size || order.contains((int) one)) return find(3);
            order.add((int) one);
        }
        return fine(cheapest(order, dust));
    }

    /** Tries for each chair, from the minister down, whatever it could become. */
    private int cheapest(List<Integer> order, boolean dust) {
        long[] best = null;
        int[] highs = null;
        for (int k = 0; k < order.size(); k++) {
            Chair c = hall.chairs.get(order.get(k)).twin();
            int choices = dust ? c.leg + 1 : 21 - c.cushions;
            long[] here = new long[choices];
            int[] highHere = new int[choices];
            for (int v = 0; v < choices; v++) {
                Chair t = c.twin();
                if (dust) t.leg -= v;
                else t.cushions += v;
                highHere[v] = t.high();
                here[v] = k == 0 ? v : Long.MAX_VALUE;
                for (int u = 0; k > 0 && u < best.length; u++) {
                    boolean so = highs[u] > highHere[v] || highs[u] == highHere[v] && order.get(k - 1) < order.get(k);
                    if (so && best[u] != Long.MAX_VALUE) here[v] = Math.min(here[v], best[u] + v);
                }
            }
            best = here;
            highs = highHere;
        }
        long least = Long.MAX_VALUE;
        for (long v : best) least = Math.min(least, v);
        return least == Long.MAX_VALUE ? NONE : (int) least;
    }

    public int climb(int chair) {
        if (!chairs(chair)) return BAD;
        for (int more = 0; more < 1000; more++) {
            boolean first = true;
            for (Chair c : hall.chairs) {
                int mine = hall.chairs.get(chair).high() + more;
                if (c.number < chair && c.high() >= mine || c.number > chair && c.high() > mine) first = false;
            }
            if (first) return more;
        }
        throw new IllegalStateException();
    }

    public int coalition(int what) {
        if (hall.chairs.isEmpty()) return STATE;
        if (!in(what, 0, 1)) return BAD;
        int best = NONE;
        for (int bits = 0; bits < 1 << hall.chairs.size(); bits++) {
            int in = 0, out = 0;
            for (Chair c : hall.chairs) {
                if ((bits >> c.number & 1) == 1) in += c.high();
                else out += c.high();
            }
            if (in > out && (best == NONE || Integer.bitCount(bits) < Integer.bitCount(best))) best = bits;
        }
        return best == NONE || what == 1 ? best : Integer.bitCount(best);
    }

    public int sawnBy(int chair) {
        if (!chairs(chair)) return BAD;
        int bits = 0;
        for (Chair c : hall.chairs) if (number(hall.prey(c)) == chair) bits |= 1 << c.number;
        return bits;
    }

    public int round() {
        if (hall.chairs.isEmpty()) return STATE;
        int bits = 0;
        for (Chair c : hall.chairs) {
            Chair prey = hall.prey(c);
            if (prey != null && hall.prey(prey) == c) bits |= 1 << c.number;
        }
        return bits;
    }

    public int enemy(int chair, int n, int what) {
        if (!chairs(chair) || !in(n, 1, 30) || !in(what, 0, 1)) return BAD;
        int[] high = new int[hall.chairs.size()];
        int best = 0;
        for (int s = 0; s < high.length; s++) {
            Hall h = hall.twin();
            h.chairs.get(s).saw = 0;
            high[s] = h.behind(n).chairs.get(chair).high();
            if (high[s] > high[best]) best = s;
        }
        return what == 0 ? best : high[best];
    }

    private boolean so(Hall h, int chair, int row, int i, int n) {
        for (int k = 0; k < n; k++) if (h.behind(k + 1).chairs.get(chair).high() != rows[row][i + k]) return false;
        return true;
    }

    public int who(int chair, int which, int other, int row, int i, int n) {
        if (!chairs(chair, other) || !in(which, 0, 2) || !in(row, 0, 7) || !in(n, 1, 12)) return BAD;
        if (rows[row] == null) return find(1);
        if (!fits(rows[row], i, n)) return find(2);
        int bits = 0;
        for (int v = 0; v < 10; v++) {
            Hall h = hall.twin();
            Chair c = h.chairs.get(chair);
            if (which == 0 && !in(v, 1, 5) || which == 2 && v > 3) continue;
            if (which == 0) c.sort = v;
            if (which == 1) c.saw = v;
            if (which == 2) c.grudge = v;
            if (so(h, other, row, i, n)) bits += 1 << v;
        }
        return fine(bits);
    }

    public int guarded(int chair, int row, int i, int n) {
        if (!chairs(chair) || !in(row, 0, 7) || !in(n, 1, 12)) return BAD;
        if (rows[row] == null) return find(1);
        if (!fits(rows[row], i, n)) return find(2);
        int bits = so(hall, chair, row, i, n) ? 64 : 0;
        for (Chair c : hall.chairs) {
            Hall h = hall.twin();
            h.chairs.get(c.number).watched = true;
            if (!c.watched && so(h, chair, row, i, n)) bits += 1 << c.number;
        }
        return fine(bits);
    }

    public long doze(int chair, int r, int n, int p, int what) {
        if (!chairs(chair) || !in(r, 0, 5) || !in(n, 0, 30) || !in(p, 0, 10) || !in(what, 0, 1)) return BAD;
        BigInteger above = dozing(hall.twin(), 0, chair, r, n, p);
        BigInteger below = BigInteger.TEN.pow(Integer.bitCount(hall.watchedBits()));
        BigInteger gcd = above.gcd(below);
        return (what == 0 ? above : below).divide(gcd).longValueExact();
    }

    private static BigInteger dozing(Hall h, int from, int chair, int r, int n, int p) {
        if (from == h.chairs.size()) return h.behind(n).rank(chair) <= r ? BigInteger.ONE : BigInteger.ZERO;
        if (!h.chairs.get(from).watched) return dozing(h, from + 1, chair, r, n, p);
        Hall asleep = h.twin();
        asleep.chairs.get(from).watched = false;
        return BigInteger.valueOf(p).multiply(dozing(asleep, from + 1, chair, r, n, p))
            .add(BigInteger.valueOf(10 - p).multiply(dozing(h, from + 1, chair, r, n, p)));
    }

    public int drawn(int n, int seed, int what) {
        if (hall.chairs.isEmpty()) return STATE;
        if (!in(n, 0, 60) || !in(seed, 1, 999999) || !in(what, 0, 1)) return BAD;
        Hall h = hall.twin();
        BigInteger x = BigInteger.valueOf(seed);
        for (int k = 0; k < n; k++) {
            x = x.multiply(BigInteger.valueOf(16807)).mod(BigInteger.valueOf(2147483647));
            int one = x.mod(BigInteger.valueOf(h.chairs.size())).intValue();
            h.watchJust(1 << one);
            Chair c = h.chairs.get(one);
            if (x.mod(BigInteger.valueOf(5)).signum() == 0) c.leg = Math.min(60, c.leg + h.glue);
            h = h.next();
        }
        return what == 0 ? h.order().get(0).number : h.legs();
    }

    public int image(int k) {
        if (!in(k, 0, 1)) return BAD;
        if (hall.chairs.isEmpty()) return STATE;
        images[k] = hall.twin();
        return 1;
    }

    public int restore(int k) {
        if (!in(k, 0, 1)) return BAD;
        if (images[k] == null) return STATE;
        hall = images[k].twin();
        acts.clear();
        return 1;
    }

    public int kind(int one) {
        return chairs(one) ? hall.chairs.get(one).sort : BAD;
    }

    /** The kinds in Java's own terms. */
    private abstract static class Any {
        final Chair c;
        final List<Integer> trace;

        Any(Chair c, List<Integer> trace) {
            this.c = c;
            this.trace = trace;
        }

        int size() {
            trace.add(10);
            return c.leg;
        }

        int mark() {
            trace.add(20);
            return c.number;
        }
    }

    private static class Plain extends Any {
        Plain(Chair c, List<Integer> trace) {
            super(c, trace);
        }

        @Override int size() {
            trace.add(11);
            return super.size() + mark();
        }

        @Override int mark() {
            trace.add(21);
            return super.mark() + c.cushions;
        }
    }

    private static final class Rocker extends Plain {
        Rocker(Chair c, List<Integer> trace) {
            super(c, trace);
        }

        @Override int size() {
            trace.add(12);
            return 0 - super.size();
        }

        @Override int mark() {
            trace.add(24);
            return super.mark() * 2;
        }
    }

    private static final class Cushioned extends Plain {
        Cushioned(Chair c, List<Integer> trace) {
            super(c, trace);
        }

        @Override int mark() {
            trace.add(22);
            return super.mark() - 1000;
        }
    }

    private static class Oak extends Any {
        Oak(Chair c, List<Integer> trace) {
            super(c, trace);
        }

        @Override int size() {
            trace.add(13);
            return super.size() - 100;
        }

        @Override int mark() {
            trace.add(23);
            return super.mark() - size();
        }
    }

    private static final class Throne extends Oak {
        Throne(Chair c, List<Integer> trace) {
            super(c, trace);
        }

        @Override int size() {
            trace.add(14);
            return super.size() * 2;
        }
    }

    private Any any(int one) {
        Chair c = hall.chairs.get(one);
        switch (c.sort) {
            case 1: return new Plain(c, trace);
            case 2: return new Rocker(c, trace);
            case 3: return new Cushioned(c, trace);
            case 4: return new Oak(c, trace);
            default: return new Throne(c, trace);
        }
    }

    public int as(int one, int kind) {
        if (!chairs(one) || !in(kind, 0, 5)) return BAD;
        Class<?>[] kinds = {Any.class, Plain.class, Rocker.class, Cushioned.class, Oak.class, Throne.class};
        return kinds[kind].isInstance(any(one)) ? fine(one) : find(3);
    }

    public int ask(int one, int what) {
        if (!chairs(one) || !in(what, 0, 1)) return BAD;
        trace.clear();
        return what == 0 ? any(one).size() : any(one).mark();
    }

    public int trace(int i) {
        return in(i, 0, Math.min(16, trace.size()) - 1) ? trace.get(i) : NONE;
    }

    public int count(int what) {
        switch (what) {
            case 0:
                int there = 0;
                for (long[] row : rows) if (row != null) there++;
                return there;
            case 1: return hall.chairs.size();
            case 2: return hall.night;
            case 3: return hall.watchedBits();
            case 4: return hall.legs();
            case 5: return hall.chairs.stream().mapToInt(c -> c.caught).sum();
            case 6: return acts.size();
            case 7: return tape.length();
            default: return BAD;
        }
    }

    public int status() {
        return status;
    }
}
