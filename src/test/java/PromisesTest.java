/** One part for each promise of the document, with answers reckoned by hand from its words. */
public final class PromisesTest {
    private static final int NONE = -1000000, BAD = -1000001, STATE = -1000002, FULL = -1000003;
    private static final int NULL = -1000011, PLACE = -1000012, KIND = -1000013, SIZE = -1000014, STORE = -1000015;
    private static final int MIN = Integer.MIN_VALUE, MAX = Integer.MAX_VALUE;
    private static int wrong;

    /** Three chairs: a plain 9 that grudges the next, a cushioned 8 likewise, an oak 9 that grudges upwards. */
    private static final String THREE = "m1,5;p9,2,3;c8,3,3;o9,1,1;";
    /** One of each sort and nobody saws. */
    private static final String STILL = "m2,4;p10,0,0;r10,0,0;c10,0,0;o10,0,0;t10,0,0;";

    private static void due(String call, long got, long want) {
        if (got != want) {
            wrong++;
            System.out.println(call + " answered " + got + ", due is " + want);
        }
    }

    private static int tell(ChairRanks x, String text) {
        for (int k = 0; k < text.length(); k++) {
            x.feed(text.charAt(k));
        }
        return x.ministry();
    }

    private static ChairRanks told(String text) {
        ChairRanks x = new ChairRanks();
        due("ministry() of " + text, tell(x, text), text.split(";").length - 1);
        return x;
    }

    private static void fill(ChairRanks x, int row, int lane, int... items) {
        x.row(row, lane, items.length);
        for (int k = 0; k < items.length; k++) {
            x.set(row, k, items[k]);
        }
    }

    public static void main(String[] args) {
        newObject();
        rows();
        copies();
        drops();
        feeds();
        readings();
        faults();
        undone();
        nightsDone();
        cushionsDone();
        mends();
        watches();
        changes();
        saws();
        chairs();
        ranks();
        aheads();
        ministers();
        floors();
        risings();
        calms();
        cushionsFor();
        guards();
        bestWatches();
        sawdusts();
        piles();
        climbs();
        coalitions();
        sawn();
        rounds();
        enemies();
        whos();
        guardeds();
        dozes();
        draws();
        images();
        kinds();
        asks();
        counts();
        statuses();
        System.out.println(wrong == 0 ? "all promises hold" : wrong + " answers are not as due");
        if (wrong != 0) {
            System.exit(1);
        }
    }

    private static void newObject() {
        ChairRanks x = new ChairRanks();
        for (int what = 0; what < 8; what++) {
            due("1: count(" + what + ")", x.count(what), 0);
        }
        due("1: status()", x.status(), 0);
        due("1: fault()", x.fault(), 0);
        due("1: calm()", x.calm(), STATE);
        due("1: trace(0)", x.trace(0), NONE);
        due("1: set", x.set(7, 0, 0), NULL);
    }

    private static void rows() {
        ChairRanks x = new ChairRanks();
        due("2: row", x.row(0, 0, 40), 40);
        due("2: row", x.row(7, 2, 0), 0);
        due("2: row", x.row(8, 0, 0), BAD);
        due("2: row", x.row(-1, 0, 0), BAD);
        due("2: row", x.row(0, 3, 0), BAD);
        due("2: row", x.row(0, -1, 0), BAD);
        due("2: row", x.row(0, 0, 41), BAD);
        due("2: row", x.row(0, 3, -1), BAD);
        due("2: row", x.row(8, 0, -1), BAD);
        due("2: row", x.row(0, 0, -1), SIZE);
        due("2: row", x.row(0, 0, MIN), SIZE);
        due("2: the row stays", x.drop(0), 40);
        due("2: row", x.row(1, 0, 2), 2);
        x.set(1, 1, 9);
        due("2: row anew", x.row(1, 1, 3), 3);
        due("2: other lane now", x.set(1, 2, 1000), 1000);
        fill(x, 1, 2, 3, 3, 3);
        tell(x, "m0,1;p1,0,0;");
        due("2: 3 is no order", x.sawdust(1, 2), KIND);
        x.row(1, 2, 3);
        due("2: items are 0 at first", x.sawdust(1, 2), 0);

        due("3: set", x.set(8, 0, 0), BAD);
        due("3: set", x.set(-1, 0, 0), BAD);
        due("3: set", x.set(2, 0, 0), NULL);
        due("3: set", x.set(1, 3, 0), PLACE);
        due("3: set", x.set(1, -1, 0), PLACE);
        due("3: set", x.set(1, MIN, 0), PLACE);
        due("3: set", x.set(1, MAX, 0), PLACE);
        x.row(2, 0, 1);
        due("3: bytes", x.set(2, 0, 127), 127);
        due("3: bytes", x.set(2, 0, 128), -128);
        due("3: bytes", x.set(2, 0, 256), 0);
        due("3: bytes", x.set(2, 0, -129), 127);
        x.row(2, 1, 1);
        due("3: shorts", x.set(2, 0, 32767), 32767);
        due("3: shorts", x.set(2, 0, 32768), -32768);
        due("3: shorts", x.set(2, 0, 65537), 1);
        x.row(2, 2, 1);
        due("3: ints", x.set(2, 0, MIN), MIN);
        due("3: ints", x.set(2, 0, MAX), MAX);
    }

    private static void copies() {
        ChairRanks x = told(THREE);
        due("4: copy", x.copy(8, 0, 0, 0, 0), BAD);
        due("4: copy", x.copy(0, 0, -1, 0, 0), BAD);
        due("4: copy", x.copy(0, 0, 1, 0, 0), NULL);
        fill(x, 0, 0, 2, 0, 1, 5);
        due("4: copy", x.copy(0, 0, 1, 0, 0), NULL);
        due("4: copy", x.copy(1, 0, 0, 0, 0), NULL);
        x.row(1, 1, 4);
        due("4: store ahead of place", x.copy(0, 9, 1, 9, -1), STORE);
        x.row(1, 0, 4);
        due("4: place", x.copy(0, 0, 1, 0, 5), PLACE);
        due("4: place", x.copy(0, 2, 1, 0, 3), PLACE);
        due("4: place", x.copy(0, 0, 1, 3, 2), PLACE);
        due("4: place", x.copy(0, -1, 1, 0, 1), PLACE);
        due("4: place", x.copy(0, 0, 1, -1, 1), PLACE);
        due("4: place", x.copy(0, 0, 1, 0, -1), PLACE);
        due("4: place", x.copy(0, 5, 1, 0, 0), PLACE);
        due("4: place", x.copy(0, MAX, 1, 0, MAX), PLACE);
        due("4: place", x.copy(0, 0, 1, 0, MIN), PLACE);
        due("4: at the end", x.copy(0, 4, 1, 4, 0), 0);
        due("4: copy", x.copy(0, 0, 1, 0, 3), 3);
        due("4: order 2 0 1 came over", x.sawdust(1, 0), 1);
        due("4: within itself, onwards", x.copy(0, 0, 0, 1, 3), 3);
        due("4: order stands from 1 on", x.sawdust(0, 1), 1);
        due("4: within itself, back", x.copy(0, 1, 0, 0, 3), 3);
        due("4: order stands from 0 on", x.sawdust(0, 0), 1);
    }

    private static void drops() {
        ChairRanks x = new ChairRanks();
        due("5: drop", x.drop(8), BAD);
        due("5: drop", x.drop(-1), BAD);
        due("5: drop", x.drop(0), NULL);
        x.row(0, 0, 7);
        due("5: drop", x.drop(0), 7);
        due("5: drop", x.drop(0), NULL);
        due("5: count", x.count(0), 0);
    }

    private static void feeds() {
        ChairRanks x = new ChairRanks();
        due("6: feed", x.feed(-1), BAD);
        due("6: feed", x.feed(256), BAD);
        due("6: feed", x.feed(0), 1);
        for (int k = 2; k <= 120; k++) {
            due("6: feed", x.feed(255), k);
        }
        due("6: feed", x.feed(0), FULL);
        due("6: BAD ahead of FULL", x.feed(256), BAD);
        due("6: count(7)", x.count(7), 120);
    }

    private static void readings() {
        ChairRanks x = new ChairRanks();
        due("7: read", tell(x, THREE), 3);
        due("7: the tape is empty then", x.count(7), 0);
        due("8: no fault", x.fault(), 0);
        x.cushions(0, 3);
        x.watch(0, 1);
        x.nights(2);
        due("7: somebody was caught", x.count(5), 1);
        due("7: a fault", tell(x, "m1,5;x"), -1000105);
        due("7: all stays", x.count(1), 3);
        due("7: all stays", x.count(2), 2);
        due("7: all stays", x.count(3), 1);
        due("7: all stays", x.count(6), 4);
        due("7: all stays", x.chair(0, 1), 3);
        due("7: all stays", x.ahead(0, 1, 1), 0);
        due("7: the tape is empty then", x.count(7), 0);
        due("7: read anew", tell(x, THREE), 3);
        due("7: fault stays", x.fault(), 1);
        due("7: night", x.count(2), 0);
        due("7: watched", x.count(3), 0);
        due("7: caught", x.count(5), 0);
        due("7: acts", x.count(6), 0);
        due("7: undo", x.undo(), STATE);
        due("7: cushions", x.chair(0, 1), 0);
        due("7: six", tell(x, "m5,9;p60,9,3;r0,0,0;c01,02,03;o1,1,1;t1,1,1;p1,1,1;"), 6);
        due("7: figures may begin with 0", x.chair(2, 5), 2);
    }

    private static void faults() {
        String law = "m0,1;", six = "p0,0,0;p0,0,0;p0,0,0;p0,0,0;p0,0,0;p0,0,0;";
        fault("", 1, 0);
        fault("p", 1, 0);
        fault("M0,1;", 1, 0);
        fault(" m0,1;", 1, 0);
        fault("m", 1, 1);
        fault("m,", 1, 1);
        fault("m100,1;", 1, 1);
        fault("m000,1;", 1, 1);
        fault("m6,1;", 2, 1);
        fault("m10,1;", 2, 1);
        fault("m5;", 1, 2);
        fault("m5,0;", 2, 3);
        fault("m5,10;", 2, 3);
        fault("m5,9,", 1, 4);
        fault(law, 1, 5);
        fault(law + "m", 1, 5);
        fault(law + "1", 1, 5);
        fault(law + "p", 1, 6);
        fault(law + "p61,0,0;", 2, 6);
        fault(law + "p99999,0,0;", 1, 6);
        fault(law + "pp", 1, 6);
        fault(law + "p0;", 1, 7);
        fault(law + "p0,10,0;", 2, 8);
        fault(law + "p0,0;", 1, 9);
        fault(law + "p0,0,4;", 2, 10);
        fault(law + "p0,0,0,", 1, 11);
        fault(law + "p0,0,0", 1, 11);
        fault(law + "p0,0,0; ", 1, 12);
        fault(law + "p0,0,0;123", 1, 12);
        fault(law + six + "p0,0,0;", 3, 47);
        fault(law + six + "t", 3, 47);
        fault(law + six + "x", 1, 47);
        fault(law + six + ";", 1, 47);
        fault(law + "p61,0,0;" + six, 2, 6);
    }

    private static void fault(String text, int number, int place) {
        ChairRanks x = new ChairRanks();
        due("7: " + text, tell(x, text), -1000100 - place);
        due("8: " + text, x.fault(), number);
        due("7: no ministry by " + text, x.count(1), 0);
    }

    private static void undone() {
        ChairRanks x = told(THREE);
        due("9: undo", x.undo(), STATE);
        x.nights(2);
        due("9: legs", x.count(4), 18);
        x.cushions(0, 7);
        x.mend(0);
        x.watch(1, 1);
        x.change(0, 1);
        x.saw(2, 9);
        due("9: acts", x.count(6), 7);
        due("9: undo saw", x.undo(), 6);
        due("9: saw", x.chair(2, 5), 1);
        due("9: undo change", x.undo(), 5);
        due("9: saw", x.chair(0, 5), 2);
        due("9: undo watch", x.undo(), 4);
        due("9: watched", x.count(3), 0);
        due("9: undo mend", x.undo(), 3);
        due("9: leg", x.chair(0, 0), 7);
        due("9: undo cushions", x.undo(), 2);
        due("9: cushions", x.chair(0, 1), 0);
        due("9: undo a night", x.undo(), 1);
        due("9: night", x.count(2), 1);
        due("9: legs", x.count(4), 22);
        due("9: undo a night", x.undo(), 0);
        due("9: legs", x.count(4), 26);
        due("9: undo", x.undo(), STATE);
        x.watch(0, 1);
        x.nights(1);
        due("9: caught", x.count(5), 1);
        due("9: the caught one saws less", x.chair(2, 5), 0);
        x.undo();
        due("9: caught no more", x.count(5), 0);
        due("9: saws as before", x.chair(2, 5), 1);
        due("9: a watch can be undone", x.undo(), 0);

        ChairRanks y = told(THREE);
        y.cushions(0, 1);
        for (int k = 2; k <= 20; k++) {
            y.cushions(0, k);
        }
        for (int k = 1; k <= 5; k++) {
            y.cushions(1, k);
        }
        due("9: 24 are kept", y.count(6), 24);
        for (int k = 23; k >= 0; k--) {
            due("9: undo", y.undo(), k);
        }
        due("9: the oldest is forgotten", y.chair(0, 1), 1);
        due("9: undo", y.undo(), STATE);
    }

    private static void nightsDone() {
        ChairRanks x = new ChairRanks();
        due("10: STATE ahead of BAD", x.nights(0), STATE);
        x = told(THREE);
        due("10: nights", x.nights(0), BAD);
        due("10: nights", x.nights(25), BAD);
        due("10: nights", x.nights(MIN), BAD);
        // Ranks 0, 2, 1: 0 saws 1 by 2, 1 saws the oak by 3 / 2, 2 saws 0 by 1.
        due("10: a night", x.nights(1), 0);
        due("10: legs", x.chair(0, 0), 8);
        due("10: legs", x.chair(1, 0), 6);
        due("10: legs", x.chair(2, 0), 8);
        // Still so: 8 and 8, 0 is first.
        due("10: a night", x.nights(1), 0);
        due("10: legs", x.chair(0, 0), 7);
        due("10: legs", x.chair(1, 0), 4);
        due("10: legs", x.chair(2, 0), 7);
        x.watch(2, 1);
        due("10: watched", x.nights(1), 2);
        due("10: nothing is sawn", x.chair(2, 0), 7);
        due("10: caught", x.chair(1, 8), 1);
        due("10: saw", x.chair(1, 5), 2);
        due("10: not caught", x.chair(0, 8), 0);

        ChairRanks y = told("m0,1;p3,9,2;p3,9,2;");
        due("10: legs stay 0 at least", y.nights(2), 0);
        due("10: 1 sawed 0 at first, 0 sawed 1 then", y.chair(0, 0) * 100 + y.chair(1, 0), 0);
        for (int k = 0; k < 41; k++) {
            y.nights(24);
        }
        due("10: night", y.count(2), 986);
        due("10: nights", y.nights(14), FULL);
        due("10: BAD ahead of FULL", y.nights(25), BAD);
        due("10: nights", y.nights(13), 0);
        due("10: night", y.count(2), 999);
        due("10: nights", y.nights(1), FULL);
        due("10: foretold none the less", y.ahead(0, 60, 0), 0);

        ChairRanks z = told("m5,9;t9,3,0;o9,5,1;t9,7,2;p9,9,1;");
        // 14 0, 14 2, 9 1, 9 3: 1 saws 2 by 2, 2 saws 0 by 3, 3 saws 1 by 4.
        due("10: halves are cut", z.nights(1), 2);
        due("10: throne", z.chair(0, 0), 6);
        due("10: oak", z.chair(1, 0), 5);
        due("10: throne", z.chair(2, 0), 7);
        due("10: plain", z.chair(3, 0), 9);

        ChairRanks w = told("m1,1;o5,0,0;p4,1,1;");
        w.watch(0, 1);
        w.nights(1);
        due("10: who would saw off nothing is caught, too", w.chair(1, 8), 1);
    }

    private static void cushionsDone() {
        ChairRanks x = told(THREE);
        due("11: cushions", x.cushions(0, 20), 0);
        due("11: cushions", x.cushions(0, 0), 20);
        due("11: cushions", x.cushions(0, 0), 0);
        due("11: acts", x.count(6), 3);
        due("11: cushions", x.cushions(0, 21), BAD);
        due("11: cushions", x.cushions(0, -1), BAD);
        due("11: cushions", x.cushions(3, 1), BAD);
        due("11: cushions", x.cushions(-1, 1), BAD);
        due("11: acts", x.count(6), 3);
    }

    private static void mends() {
        ChairRanks x = told("m0,7;p50,0,0;p60,0,0;");
        due("12: mend", x.mend(0), 57);
        due("12: mend", x.mend(0), 60);
        due("12: mend", x.mend(0), FULL);
        due("12: mend", x.mend(1), FULL);
        due("12: mend", x.mend(2), BAD);
        due("12: mend", x.mend(-1), BAD);
        due("12: acts", x.count(6), 2);
        x.undo();
        due("12: undone", x.chair(0, 0), 57);
    }

    private static void watches() {
        ChairRanks x = told("m2,1;p1,0,0;p1,0,0;p1,0,0;");
        due("13: watch", x.watch(0, 0), STATE);
        due("13: watch", x.watch(2, 1), 4);
        due("13: watch", x.watch(2, 1), STATE);
        due("13: watch", x.watch(0, 1), 5);
        due("13: STATE ahead of FULL", x.watch(0, 1), STATE);
        due("13: watch", x.watch(1, 1), FULL);
        due("13: watch", x.watch(2, 0), 1);
        due("13: watch", x.watch(1, 1), 3);
        due("13: watch", x.watch(0, 2), BAD);
        due("13: watch", x.watch(0, -1), BAD);
        due("13: watch", x.watch(3, 1), BAD);
        due("13: watch", x.watch(-1, 1), BAD);
        due("13: acts", x.count(6), 4);
        due("13: no watchmen", told("m0,1;p1,0,0;").watch(0, 1), FULL);
    }

    private static void changes() {
        ChairRanks x = told(THREE);
        due("14: change", x.change(0, 0), BAD);
        due("14: change", x.change(0, 3), BAD);
        due("14: change", x.change(-1, 0), BAD);
        x.watch(0, 1);
        x.nights(1);
        due("14: caught", x.chair(2, 8), 1);
        due("14: change", x.change(2, 1), 0);
        due("14: saw", x.chair(2, 5), 3);
        due("14: grudge", x.chair(2, 6), 3);
        due("14: caught", x.chair(2, 8), 0);
        due("14: saw", x.chair(1, 5), 0);
        due("14: grudge", x.chair(1, 6), 1);
        due("14: caught", x.chair(1, 8), 1);
        due("14: the chair stays", x.kind(1), 3);
        due("14: nobody", x.change(0, 1), NONE);
        due("14: acts", x.count(6), 4);
    }

    private static void saws() {
        ChairRanks x = told(THREE);
        due("15: saw", x.saw(0, 9), 2);
        due("15: saw", x.saw(0, 0), 9);
        due("15: saw", x.saw(0, 0), 0);
        due("15: acts", x.count(6), 3);
        due("15: saw", x.saw(0, 10), BAD);
        due("15: saw", x.saw(0, -1), BAD);
        due("15: saw", x.saw(3, 1), BAD);
        due("15: saw", x.saw(-1, 1), BAD);
    }

    private static void chairs() {
        ChairRanks x = told(STILL);
        for (int one = 0; one < 5; one++) {
            due("16: cushions", x.cushions(one, 5), 0);
            due("16: leg", x.chair(one, 0), 10);
            due("16: cushions", x.chair(one, 1), 5);
        }
        int[] high = {15, 14, 20, 10, 15}, rank = {1, 3, 0, 4, 2};
        for (int one = 0; one < 5; one++) {
            due("16: high", x.chair(one, 2), high[one]);
            due("16: rank", x.chair(one, 3), rank[one]);
            due("17: ranked", x.ranked(rank[one]), one);
        }
        x.cushions(1, 6);
        due("16: a rocker, even", x.chair(1, 2), 16);
        x.watch(3, 1);
        due("16: watched", x.chair(3, 4), 1);
        due("16: not watched", x.chair(2, 4), 0);
        due("16: what", x.chair(0, 9), BAD);
        due("16: what", x.chair(0, -1), BAD);
        due("16: chair", x.chair(5, 0), BAD);
        due("16: chair", x.chair(-1, 0), BAD);

        ChairRanks y = told("m0,1;p5,1,0;p6,2,1;p7,3,2;p8,4,3;p9,0,1;t0,5,2;");
        int[] saw = {1, 2, 3, 4, 0, 5}, grudge = {0, 1, 2, 3, 1, 2}, prey = {NONE, 2, 4, 4, NONE, 4};
        for (int one = 0; one < 6; one++) {
            due("16: saw", y.chair(one, 5), saw[one]);
            due("16: grudge", y.chair(one, 6), grudge[one]);
            due("16: prey of " + one, y.chair(one, 7), prey[one]);
        }
        due("16: a throne without legs", y.chair(5, 2), 0);
        ChairRanks z = told("m0,1;p9,1,1;p9,1,2;p9,1,3;");
        due("16: the minister grudges nobody above", z.chair(0, 7), NONE);
        due("16: the minister", z.chair(1, 7), 0);
        due("16: behind the last", z.chair(2, 7), 0);
        z.change(0, 1);
        due("16: the minister grudges not himself", z.chair(0, 7), NONE);
        due("16: alone", told("m0,1;p9,1,3;").chair(0, 7), NONE);
    }

    private static void ranks() {
        ChairRanks x = told(THREE);
        due("17: ranked", x.ranked(0), 0);
        due("17: ranked", x.ranked(1), 2);
        due("17: ranked", x.ranked(2), 1);
        due("17: ranked", x.ranked(3), BAD);
        due("17: ranked", x.ranked(-1), BAD);
        due("17: ranked", new ChairRanks().ranked(0), BAD);
    }

    private static void aheads() {
        ChairRanks x = told(THREE);
        due("18: now", x.ahead(0, 0, 0), 9);
        due("18: high", x.ahead(1, 2, 0), 4);
        due("18: rank", x.ahead(1, 2, 1), 2);
        due("18: leg", x.ahead(2, 2, 2), 7);
        x.cushions(1, 4);
        due("18: high by cushions", x.ahead(1, 1, 0), 14);
        due("18: leg without", x.ahead(1, 1, 2), 6);
        due("18: n", x.ahead(0, 61, 0), BAD);
        due("18: n", x.ahead(0, -1, 0), BAD);
        due("18: what", x.ahead(0, 0, 3), BAD);
        due("18: what", x.ahead(0, 0, -1), BAD);
        due("18: chair", x.ahead(3, 0, 0), BAD);
        due("18: nothing changes", x.count(2), 0);
        due("18: nothing changes", x.count(4), 26);
        due("18: nothing changes", x.count(6), 1);
        due("18: far", x.ahead(0, 60, 2), 0);
    }

    private static void ministers() {
        ChairRanks x = told("m0,1;p9,0,0;p8,2,2;");
        due("19: minister", x.minister(0), 0);
        due("19: minister", x.minister(1), 1);
        due("19: minister", x.minister(60), 1);
        due("19: n", x.minister(61), BAD);
        due("19: n", x.minister(-1), BAD);
        due("19: STATE ahead of BAD", new ChairRanks().minister(-1), STATE);
    }

    private static void floors() {
        ChairRanks x = told("m1,1;p60,0,0;p59,1,3;p0,0,0;");
        x.saw(1, 0);
        due("20: never", x.floor(0), NONE);
        due("20: it is", x.floor(2), 0);
        due("20: chair", x.floor(3), BAD);
        due("20: chair", x.floor(-1), BAD);
        ChairRanks y = told("m1,1;p60,0,0;p0,1,2;");
        due("20: as 60 nights saw", y.floor(0), 60);
        due("20: not the sawyer, who is at 0", y.floor(1), 0);
        ChairRanks z = told("m1,1;p60,0,0;p0,1,3;");
        z.watch(0, 1);
        due("20: watched", z.floor(0), NONE);
        due("20: 0 is minister no more at 4", told("m0,1;o9,0,0;p5,3,2;").floor(0), NONE);
        due("20: halves", told("m0,1;o9,0,0;p1,3,3;").floor(0), 9);
        due("20: not within 60 nights", told("m0,1;p60,1,2;p60,1,2;").floor(0), NONE);
    }

    private static void risings() {
        ChairRanks x = told("m0,1;p9,0,0;p6,2,2;p3,0,0;");
        due("21: it is", x.rises(0, 0), 0);
        due("21: rises", x.rises(1, 0), 2);
        due("21: rises", x.rises(1, 1), 0);
        due("21: rises", x.rises(2, 1), NONE);
        due("21: rises", x.rises(2, 5), 0);
        due("21: r", x.rises(0, 6), BAD);
        due("21: r", x.rises(0, -1), BAD);
        due("21: chair", x.rises(3, 0), BAD);
        due("21: at 60 nights", told("m0,1;p60,0,0;p1,1,2;").rises(1, 0), 60);
        due("21: alike, but of greater number", told("m0,1;p60,0,0;p0,1,2;").rises(1, 0), NONE);
        due("21: not within 60 nights", told("m0,1;p60,1,2;p60,1,2;p3,0,0;").rises(2, 0), NONE);
    }

    private static void calms() {
        due("22: calm", new ChairRanks().calm(), STATE);
        due("22: calm", told(STILL).calm(), 0);
        due("22: oak is sawn by half of one", told("m0,1;o9,0,0;p1,1,2;").calm(), 0);
        due("22: till it is at 0", told("m0,1;p9,0,0;p0,1,3;").calm(), 9);
        due("22: behind 60 nights", told("m0,1;p60,0,0;p0,1,3;").calm(), 60);
        ChairRanks x = told("m1,1;p9,0,0;p0,1,3;");
        x.watch(0, 1);
        due("22: caught, but no leg is less", x.calm(), 0);
        due("22: an oak by half of two", told("m0,1;o31,0,0;p60,2,3;").calm(), 31);
        due("22: each saws the other in turn, by one", told("m0,1;p60,1,2;p60,1,2;").calm(), NONE);
    }

    private static void cushionsFor() {
        ChairRanks x = told("m0,1;p20,0,0;p10,0,0;c10,0,0;r10,0,0;t10,0,0;");
        due("23: it is", x.cushionFor(0, 0, 0), 0);
        due("23: plain", x.cushionFor(1, 0, 0), 11);
        due("23: cushioned", x.cushionFor(2, 0, 0), 6);
        due("23: a rocker", x.cushionFor(3, 0, 0), 12);
        due("23: a throne", x.cushionFor(4, 0, 0), NONE);
        due("23: a rank less", x.cushionFor(3, 1, 0), 6);
        due("23: 20 at most", told("m0,1;p30,0,0;p10,0,0;").cushionFor(1, 0, 0), NONE);
        due("23: 20 at most", told("m0,1;p29,0,0;p10,0,0;").cushionFor(1, 0, 30), 20);
        x.cushions(1, 15);
        due("23: fewer than there are", x.cushionFor(1, 0, 0), 11);
        due("23: nothing changes", x.chair(1, 1), 15);
        due("23: r", x.cushionFor(0, 6, 0), BAD);
        due("23: r", x.cushionFor(0, -1, 0), BAD);
        due("23: n", x.cushionFor(0, 0, 31), BAD);
        due("23: n", x.cushionFor(0, 0, -1), BAD);
        due("23: chair", x.cushionFor(5, 0, 0), BAD);
        due("23: behind nights, for who is second is not sawn by 2",
            told("m0,1;p20,0,0;p19,0,0;p0,5,2;").cushionFor(1, 0, 1), 0);
    }

    private static void guards() {
        // 1 and 2 saw 0 every night; 1 sits next.
        ChairRanks x = told("m0,1;p9,0,0;p8,2,2;p1,2,2;");
        due("24: none needed", x.guard(0, 0, 0, 0), 0);
        due("24: none needed", x.guard(0, 0, 0, 1), 0);
        due("24: one", x.guard(0, 0, 1, 0), 1);
        due("24: which", x.guard(0, 0, 1, 1), 1);
        due("24: never", x.guard(2, 0, 1, 0), NONE);
        due("24: never", x.guard(2, 0, 1, 1), NONE);
        due("24: what", x.guard(0, 0, 0, 2), BAD);
        due("24: what", x.guard(0, 0, 0, -1), BAD);
        due("24: n", x.guard(0, 0, 31, 0), BAD);
        due("24: n", x.guard(0, 0, -1, 0), BAD);
        due("24: r", x.guard(0, 6, 0, 0), BAD);
        due("24: r", x.guard(0, -1, 0, 0), BAD);
        due("24: chair", x.guard(3, 0, 0, 0), BAD);
        // 0 is sawn by 1 alone: what is watched already counts for nothing.
        ChairRanks y = told("m1,1;p9,0,0;p8,2,2;");
        y.watch(0, 1);
        due("24: others are not watched", y.guard(1, 0, 1, 0), 0);
        due("24: the watched one", y.guard(0, 0, 1, 1), 1);
        due("24: nothing changes", y.count(3), 1);
        // 1 saws 2, 2 saws 3: both fall to 11, and 2 is of lesser number.
        ChairRanks z = told("m0,1;p5,0,0;p9,9,3;p20,9,3;p20,0,0;");
        due("24: 3 is kept above", z.guard(3, 0, 1, 1), 8);
        // 2 must not be sawn by 1, and 0 must stay the first, so that 2 grudges 1 in the second night.
        ChairRanks w = told("m0,1;o9,3,3;p10,6,3;p2,6,1;");
        due("24: two", w.guard(2, 1, 2, 0), 2);
        due("24: which two", w.guard(2, 1, 2, 1), 5);
    }

    private static void bestWatches() {
        due("25: STATE ahead of BAD", new ChairRanks().bestWatch(0, 0), STATE);
        ChairRanks x = told("m0,1;p20,0,0;p20,3,3;p20,5,3;p20,5,2;");
        // In one night: 1 saws 2 by 3, 2 saws 3 by 5, 3 saws 0 by 5.
        due("25: which", x.bestWatch(1, 0), 0);
        due("25: how much", x.bestWatch(1, 1), 72);
        due("25: n", x.bestWatch(0, 0), BAD);
        due("25: n", x.bestWatch(31, 0), BAD);
        due("25: what", x.bestWatch(1, 2), BAD);
        due("25: what", x.bestWatch(1, -1), BAD);
        ChairRanks y = told("m1,1;p20,0,0;p20,3,3;p20,5,3;");
        y.watch(2, 1);
        // Alone: if 0 is watched, 2 is sawn by 3; if 2 is watched, 0 is sawn by 5.
        due("25: alone", y.bestWatch(1, 0), 0);
        due("25: alone", y.bestWatch(1, 1), 57);
        due("25: nothing changes", y.count(3), 4);
        due("25: nobody saws", told(STILL).bestWatch(30, 0), 0);
        due("25: nobody saws", told(STILL).bestWatch(30, 1), 50);
    }

    private static void sawdusts() {
        due("26: STATE ahead of BAD", new ChairRanks().sawdust(8, 0), STATE);
        ChairRanks x = told("m0,1;p10,0,0;r11,0,0;t3,0,0;o9,0,0;");
        due("26: row", x.sawdust(8, 0), BAD);
        due("26: row", x.sawdust(-1, 0), BAD);
        due("26: null", x.sawdust(0, 0), NULL);
        fill(x, 0, 0, 0, 1, 3, 2);
        due("26: place", x.sawdust(0, 1), PLACE);
        due("26: place", x.sawdust(0, -1), PLACE);
        due("26: place", x.sawdust(0, MAX), PLACE);
        due("26: as it is", x.sawdust(0, 0), 0);
        fill(x, 0, 1, 9, 1, 0, 3, 2);
        // The rocker sits at 10; 0 must be lower than it, at 9, where it is still above the oak.
        due("26: one", x.sawdust(0, 1), 1);
        fill(x, 0, 2, 2, 3, 1, 0);
        // 8; the oak alike, of greater number (1 less); the rocker 6, by 7 (4 less); 0 at 5 (5 less).
        due("26: many", x.sawdust(0, 0), 10);
        fill(x, 0, 2, 2, 3, 1, 4);
        due("26: no order", x.sawdust(0, 0), KIND);
        fill(x, 0, 2, 2, 3, 1, 1);
        due("26: no order", x.sawdust(0, 0), KIND);
        fill(x, 0, 2, 2, 3, 1, -1);
        due("26: no order", x.sawdust(0, 0), KIND);
        fill(x, 0, 2, 2, 3, 1, MIN);
        due("26: no order", x.sawdust(0, 0), KIND);
        due("26: nothing changes", x.count(4), 33);
        x.cushions(0, 9);
        fill(x, 0, 2, 1, 0, 2, 3);
        // 0 sits at 9 without a leg: below 10, but above 8; the oak is 1 less.
        due("26: without a leg", x.sawdust(0, 0), 10 + 1);
        x.cushions(0, 10);
        due("26: alike, but of lesser number", x.sawdust(0, 0), NONE);
        x.cushions(1, 20);
        due("26: cushions may help", x.sawdust(0, 0), 1);
        ChairRanks y = told("m0,1;o3,0,0;t9,0,0;");
        fill(y, 0, 0, 0, 1);
        due("26: a throne falls by 6 at once", y.sawdust(0, 0), 9);
        ChairRanks z = told("m0,1;t9,0,0;o7,0,0;");
        fill(z, 0, 0, 0, 1);
        due("26: order", z.sawdust(0, 0), 0);
        ChairRanks w = told("m0,1;p0,0,0;p0,0,0;");
        fill(w, 0, 0, 1, 0);
        due("26: alike at 0", w.sawdust(0, 0), NONE);
    }

    private static void piles() {
        due("27: STATE ahead of BAD", new ChairRanks().pile(8, 0), STATE);
        ChairRanks x = told("m0,1;p10,0,0;r10,0,0;c10,0,0;o9,0,0;t9,0,0;");
        due("27: row", x.pile(8, 0), BAD);
        due("27: null", x.pile(0, 0), NULL);
        fill(x, 0, 0, 4, 0, 1, 2, 3);
        due("27: place", x.pile(0, 1), PLACE);
        due("27: place", x.pile(0, -1), PLACE);
        due("27: as it is", x.pile(0, 0), 0);
        fill(x, 0, 0, 4, 2, 1, 0, 3);
        // 10; the rocker 12 by 2; the cushioned one 14 by 2, and 14 the throne, of greater number.
        due("27: can not", x.pile(0, 0), NONE);
        fill(x, 0, 0, 2, 1, 0, 4, 3);
        // 14; 0 by 4, and alike; the rocker 16 by 6; the cushioned one 18 by 4.
        due("27: many", x.pile(0, 0), 14);
        fill(x, 0, 0, 3, 0, 1, 2, 4);
        due("27: oak can not", x.pile(0, 0), NONE);
        fill(x, 0, 0, 0, 1, 2, 4, 4);
        due("27: no order", x.pile(0, 0), KIND);
        fill(x, 0, 0, 0, 1, 2, 3, 5);
        due("27: no order", x.pile(0, 0), KIND);
        due("27: nothing changes", x.chair(0, 1), 0);
        ChairRanks y = told("m0,1;p10,0,0;p30,0,0;p29,0,0;");
        fill(y, 0, 0, 0, 1, 2);
        due("27: 20 at most", y.pile(0, 0), 20);
        y.cushions(0, 5);
        due("27: those there are count", y.pile(0, 0), 15);
        y.cushions(1, 1);
        due("27: 20 at most on each", y.pile(0, 0), NONE);
    }

    private static void climbs() {
        ChairRanks x = told("m0,1;p9,0,0;p12,0,0;p12,0,0;r13,0,0;");
        due("28: climb", x.climb(0), 3);
        due("28: it is", x.climb(1), 0);
        due("28: climb", x.climb(2), 1);
        due("28: climb", x.climb(3), 1);
        due("28: chair", x.climb(4), BAD);
        due("28: chair", x.climb(-1), BAD);
    }

    private static void coalitions() {
        due("29: STATE ahead of BAD", new ChairRanks().coalition(2), STATE);
        ChairRanks x = told("m0,1;p2,0,0;p3,0,0;p4,0,0;p1,0,0;");
        due("29: what", x.coalition(2), BAD);
        due("29: what", x.coalition(-1), BAD);
        due("29: how many", x.coalition(0), 2);
        due("29: which", x.coalition(1), 5);
        x.cushions(2, 3);
        due("29: one is more than half", x.coalition(0), 1);
        due("29: which", x.coalition(1), 4);
        x.cushions(2, 2);
        due("29: half is not more", x.coalition(0), 2);
        due("29: which", x.coalition(1), 5);
        due("29: both", told("m0,1;p7,0,0;p7,0,0;").coalition(1), 3);
        ChairRanks y = told("m0,1;p0,0,0;t0,0,0;");
        due("29: all at 0", y.coalition(0), NONE);
        due("29: all at 0", y.coalition(1), NONE);
    }

    private static void sawn() {
        ChairRanks x = told("m1,1;p9,0,0;p8,1,1;p7,1,2;p6,1,3;");
        due("30: by", x.sawnBy(0), 14);
        due("30: by", x.sawnBy(1), 0);
        x.watch(0, 1);
        due("30: watched or not", x.sawnBy(0), 14);
        x.saw(2, 0);
        due("30: by", x.sawnBy(0), 10);
        due("30: chair", x.sawnBy(4), BAD);
        due("30: chair", x.sawnBy(-1), BAD);
    }

    private static void rounds() {
        due("31: round", new ChairRanks().round(), STATE);
        due("31: two", told("m0,1;p9,1,3;p8,1,1;").round(), 3);
        due("31: three are none", told("m0,1;p9,1,3;p8,1,3;p7,1,3;").round(), 0);
        due("31: some", told("m0,1;p9,1,0;p8,1,3;p7,1,1;p6,1,1;").round(), 6);
        due("31: one has no saw", told("m0,1;p9,0,3;p8,1,1;").round(), 0);
    }

    private static void enemies() {
        // 1 saws 0 by 2, 2 saws 0 by 3 through nights.
        ChairRanks x = told("m1,1;p30,0,0;p9,2,2;p8,3,2;");
        due("32: who", x.enemy(0, 2, 0), 2);
        due("32: how high", x.enemy(0, 2, 1), 26);
        due("32: the first of several", x.enemy(1, 2, 0), 0);
        due("32: how high", x.enemy(1, 2, 1), 9);
        due("32: n", x.enemy(0, 0, 0), BAD);
        due("32: n", x.enemy(0, 31, 0), BAD);
        due("32: n", x.enemy(0, 1, 1), 28);
        due("32: n, till 0 sits below 1", x.enemy(0, 30, 1), 8);
        due("32: what", x.enemy(0, 1, 2), BAD);
        due("32: what", x.enemy(0, 1, -1), BAD);
        due("32: chair", x.enemy(3, 1, 0), BAD);
        x.cushions(0, 4);
        due("32: high, not leg", x.enemy(0, 2, 1), 30);
        due("32: nothing changes", x.chair(2, 5), 3);
    }

    private static void whos() {
        // 0 is sawn by 2 of chair 2 each night, if 0 is the minister.
        ChairRanks x = told("m1,1;p20,0,0;p5,0,0;p5,2,2;");
        due("33: BAD ahead of NULL", x.who(3, 0, 0, 0, 0, 1), BAD);
        due("33: chair", x.who(-1, 0, 0, 0, 0, 1), BAD);
        due("33: which", x.who(0, 3, 0, 0, 0, 1), BAD);
        due("33: which", x.who(0, -1, 0, 0, 0, 1), BAD);
        due("33: other", x.who(0, 0, 3, 0, 0, 1), BAD);
        due("33: other", x.who(0, 0, -1, 0, 0, 1), BAD);
        due("33: row", x.who(0, 0, 0, 8, 0, 1), BAD);
        due("33: row", x.who(0, 0, 0, -1, 0, 1), BAD);
        due("33: n", x.who(0, 0, 0, 0, 0, 0), BAD);
        due("33: n", x.who(0, 0, 0, 0, 0, 13), BAD);
        due("33: null", x.who(0, 0, 0, 0, 0, 1), NULL);
        fill(x, 0, 0, 18, 16, 14);
        due("33: place", x.who(0, 0, 0, 0, 0, 4), PLACE);
        due("33: place", x.who(0, 0, 0, 0, 3, 1), PLACE);
        due("33: place", x.who(0, 0, 0, 0, -1, 1), PLACE);
        due("33: place", x.who(0, 0, 0, 0, MAX, 12), PLACE);
        due("33: kinds of it", x.who(0, 0, 0, 0, 0, 3), 2 + 4 + 8);
        due("33: saws of the other", x.who(2, 1, 0, 0, 0, 3), 4);
        due("33: grudges: the minister, the next, who is 0, too", x.who(2, 2, 0, 0, 0, 3), 4 + 8);
        due("33: kinds of the other are free", x.who(2, 0, 0, 0, 0, 3), 2 + 4 + 8 + 16 + 32);
        due("33: saws of one who saws nobody are free", x.who(0, 1, 0, 0, 0, 1), 1023);
        due("33: grudges of one without a saw are free", x.who(1, 2, 0, 0, 0, 1), 15);
        due("33: not from the middle on", x.who(0, 0, 0, 0, 1, 1), 0);
        fill(x, 1, 2, 19, 18);
        due("33: oak", x.who(0, 0, 0, 1, 0, 2), 16);
        fill(x, 1, 2, 24, 23);
        due("33: throne", x.who(0, 0, 0, 1, 0, 2), 32);
        fill(x, 1, 1, 20);
        due("33: grudge 0, or the one above, who is 1", x.who(2, 2, 0, 1, 0, 1), 1 + 2);
        fill(x, 1, 1, 5, 3);
        due("33: by none", x.who(2, 1, 1, 1, 0, 2), 0);
        fill(x, 2, 0, 13, 6, 0);
        due("33: by 7, three times", x.who(2, 1, 0, 2, 0, 3), 1 << 7);
        fill(x, 2, 0, 12, 4, 4);
        due("33: by 8, till he is minister no more", x.who(2, 1, 0, 2, 0, 3), 1 << 8);
        due("33: nothing changes", x.count(4), 30);
    }

    private static void guardeds() {
        ChairRanks x = told("m1,1;p20,0,0;p5,0,0;p5,2,2;");
        due("34: chair", x.guarded(3, 0, 0, 1), BAD);
        due("34: row", x.guarded(0, 8, 0, 1), BAD);
        due("34: n", x.guarded(0, 0, 0, 0), BAD);
        due("34: n", x.guarded(0, 0, 0, 13), BAD);
        due("34: null", x.guarded(0, 0, 0, 1), NULL);
        fill(x, 0, 0, 18, 16, 20, 20);
        due("34: place", x.guarded(0, 0, 3, 2), PLACE);
        due("34: place", x.guarded(0, 0, -1, 1), PLACE);
        due("34: as it is, or 1 or 2 watched", x.guarded(0, 0, 0, 2), 64 + 2 + 4);
        due("34: 0 watched", x.guarded(0, 0, 2, 2), 1);
        due("34: not at all", x.guarded(0, 0, 1, 2), 0);
        x.watch(0, 1);
        due("34: as it is, and those not watched", x.guarded(0, 0, 2, 2), 64 + 2 + 4);
        due("34: whatever there is of watchmen", x.count(3), 1);
    }

    private static void dozes() {
        ChairRanks x = told("m2,1;p9,0,0;p8,2,2;");
        due("35: nothing is watched: 0 falls", x.doze(0, 0, 1, 3, 0), 0);
        due("35: 0 by 1", x.doze(0, 0, 1, 3, 1), 1);
        due("35: sure", x.doze(1, 0, 1, 3, 0), 1);
        due("35: sure", x.doze(1, 0, 1, 3, 1), 1);
        x.watch(0, 1);
        due("35: 0 stays, if he is awake", x.doze(0, 0, 1, 4, 0), 3);
        due("35: 0 stays, if he is awake", x.doze(0, 0, 1, 4, 1), 5);
        due("35: 0 falls, if he sleeps", x.doze(1, 0, 1, 4, 0), 2);
        due("35: never asleep", x.doze(0, 0, 1, 0, 0), 1);
        due("35: always asleep", x.doze(0, 0, 1, 10, 0), 0);
        due("35: always asleep", x.doze(0, 0, 1, 10, 1), 1);
        due("35: now", x.doze(0, 0, 0, 5, 1), 1);
        x.watch(1, 1);
        due("35: two watchmen, one of whom matters", x.doze(0, 0, 1, 3, 0), 7);
        due("35: two watchmen, one of whom matters", x.doze(0, 0, 1, 3, 1), 10);
        due("35: any rank", x.doze(1, 1, 30, 3, 0), 1);
        due("35: chair", x.doze(2, 0, 0, 0, 0), BAD);
        due("35: r", x.doze(0, 6, 0, 0, 0), BAD);
        due("35: r", x.doze(0, -1, 0, 0, 0), BAD);
        due("35: n", x.doze(0, 0, 31, 0, 0), BAD);
        due("35: n", x.doze(0, 0, -1, 0, 0), BAD);
        due("35: p", x.doze(0, 0, 0, 11, 0), BAD);
        due("35: p", x.doze(0, 0, 0, -1, 0), BAD);
        due("35: what", x.doze(0, 0, 0, 0, 2), BAD);
        due("35: what", x.doze(0, 0, 0, 0, -1), BAD);
        // 1 saws 2, 2 saws 0. 2 is second, if 2 is guarded and 0 is not; else last.
        ChairRanks y = told("m2,1;p9,0,0;p9,9,3;p9,9,3;");
        y.watch(0, 1);
        y.watch(2, 1);
        due("35: apart", y.doze(2, 1, 1, 1, 0), 9);
        due("35: apart", y.doze(2, 1, 1, 1, 1), 100);
        due("35: lowest terms", y.doze(2, 1, 1, 2, 0), 4);
        due("35: lowest terms", y.doze(2, 1, 1, 2, 1), 25);
        due("35: nothing changes", y.count(3), 5);
    }

    private static void draws() {
        due("36: STATE ahead of BAD", new ChairRanks().drawn(61, 0, 2), STATE);
        ChairRanks x = told("m0,9;p9,0,0;p8,3,1;p0,1,3;");
        due("36: n", x.drawn(61, 1, 0), BAD);
        due("36: n", x.drawn(-1, 1, 0), BAD);
        due("36: seed", x.drawn(1, 0, 0), BAD);
        due("36: seed", x.drawn(1, 1000000, 0), BAD);
        due("36: what", x.drawn(1, 1, 2), BAD);
        due("36: what", x.drawn(1, 1, -1), BAD);
        due("36: none", x.drawn(0, 1, 0), 0);
        due("36: none", x.drawn(0, 1, 1), 17);
        // X is 16807: chair 1, not mended; 0 is sawn by 3 and by 1.
        due("36: one night", x.drawn(1, 1, 1), 13);
        due("36: minister", x.drawn(1, 1, 0), 1);
        // X is 84035: chair 2, mended to 9, so 1 grudges it and is caught; 0 is sawn by 2 alone.
        due("36: one night", x.drawn(1, 5, 1), 8 + 8 + 9);
        due("36: minister", x.drawn(1, 5, 0), 2);
        // X is 282475249 then: chair 1 again; 1 is first, and 0 is sawn by 2 alone.
        due("36: two nights", x.drawn(2, 1, 1), 12);
        due("36: nothing changes", x.count(4), 17);
        due("36: nothing changes", x.count(3), 0);
        due("36: many draws", told("m0,1;p0,0,0;").drawn(60, 123456, 1), fives(60, 123456));
        // A chair of 60 is mended to no more than that.
        ChairRanks y = told("m0,9;p55,0,0;");
        due("36: 60 at most", y.drawn(60, 9, 1), 60);
        due("36: seed", y.drawn(60, 999999, 0), 0);
    }

    private static int fives(int n, long seed) {
        long x = seed;
        int many = 0;
        for (int k = 0; k < n; k++) {
            x = x * 16807 % 2147483647L;
            many += x % 5 == 0 ? 1 : 0;
        }
        return many;
    }

    private static void images() {
        ChairRanks x = new ChairRanks();
        due("37: BAD ahead of STATE", x.image(2), BAD);
        due("37: image", x.image(-1), BAD);
        due("37: image", x.image(0), STATE);
        due("38: BAD ahead of STATE", x.restore(2), BAD);
        due("38: restore", x.restore(-1), BAD);
        due("38: restore", x.restore(0), STATE);
        tell(x, THREE);
        x.watch(0, 1);
        x.cushions(1, 6);
        x.nights(1);
        due("37: image", x.image(1), 1);
        due("37: acts stay", x.count(6), 3);
        due("38: none was kept", x.restore(0), STATE);
        tell(x, STILL);
        x.nights(5);
        due("37: image", x.image(0), 1);
        due("38: restore", x.restore(1), 1);
        due("38: chairs", x.count(1), 3);
        due("38: night", x.count(2), 1);
        due("38: watched", x.count(3), 1);
        due("38: caught", x.chair(2, 8), 1);
        due("38: saw", x.chair(2, 5), 0);
        due("38: cushions", x.chair(1, 1), 6);
        due("38: leg", x.chair(1, 0), 6);
        due("38: kind", x.kind(2), 4);
        due("38: glue", x.mend(1), 11);
        due("38: watchmen", x.watch(1, 1), FULL);
        due("38: undo", x.undo(), 0);
        x.mend(1);
        due("38: restore again", x.restore(1), 1);
        due("38: the image is as it was kept", x.chair(1, 0), 6);
        due("38: no act can be undone", x.undo(), STATE);
        due("38: the other", x.restore(0), 1);
        due("38: the other", x.count(1), 5);
        x.nights(1);
        due("37: anew", x.image(0), 1);
        x.nights(1);
        x.restore(0);
        due("37: anew", x.count(2), 6);
    }

    private static void kinds() {
        ChairRanks x = told(STILL);
        int[] is = {1 | 2, 1 | 2 | 4, 1 | 2 | 8, 1 | 16, 1 | 16 | 32};
        for (int one = 0; one < 5; one++) {
            due("39: kind", x.kind(one), one + 1);
            for (int kind = 0; kind < 6; kind++) {
                boolean so = (is[one] >> kind & 1) == 1;
                due("40: as(" + one + ", " + kind + ")", x.as(one, kind), so ? one : KIND);
                due("40: status", x.status(), so ? 0 : 3);
            }
        }
        due("39: kind", x.kind(5), BAD);
        due("39: kind", x.kind(-1), BAD);
        due("40: as", x.as(5, 0), BAD);
        due("40: as", x.as(0, 6), BAD);
        due("40: as", x.as(0, -1), BAD);
    }

    private static void asks() {
        ChairRanks x = told("m0,1;t3,0,0;p10,0,0;r11,0,0;c12,0,0;o13,0,0;t14,0,0;");
        for (int one = 0; one < 6; one++) {
            x.cushions(one, 7);
        }
        asked(x, 1, 0, 10 + 1 + 7, 11, 10, 21, 20);
        asked(x, 1, 1, 1 + 7, 21, 20);
        asked(x, 2, 0, -(11 + 2 * (2 + 7)), 12, 11, 10, 24, 21, 20);
        asked(x, 2, 1, 2 * (2 + 7), 24, 21, 20);
        asked(x, 3, 0, 12 + 3 + 7 - 1000, 11, 10, 22, 21, 20);
        asked(x, 3, 1, 3 + 7 - 1000, 22, 21, 20);
        asked(x, 4, 0, 13 - 100, 13, 10);
        asked(x, 4, 1, 4 - (13 - 100), 23, 20, 13, 10);
        asked(x, 5, 0, 2 * (14 - 100), 14, 13, 10);
        asked(x, 5, 1, 5 - 2 * (14 - 100), 23, 20, 14, 13, 10);
        due("41: one", x.ask(6, 0), BAD);
        due("41: one", x.ask(-1, 0), BAD);
        due("41: what", x.ask(0, 2), BAD);
        due("41: what", x.ask(0, -1), BAD);
        due("42: what is refused changes nothing", x.trace(0), 23);
        due("42: trace", x.trace(MIN), NONE);
        due("42: trace", x.trace(MAX), NONE);
        due("42: trace", x.trace(16), NONE);
    }

    private static void asked(ChairRanks x, int one, int what, int answer, int... trace) {
        due("41: ask(" + one + ", " + what + ")", x.ask(one, what), answer);
        for (int k = 0; k < trace.length; k++) {
            due("42: trace(" + k + ") of ask(" + one + ", " + what + ")", x.trace(k), trace[k]);
        }
        due("42: trace", x.trace(trace.length), NONE);
        due("42: trace", x.trace(-1), NONE);
    }

    private static void counts() {
        ChairRanks x = told(THREE);
        x.row(0, 0, 1);
        due("43: rows", x.count(0), 1);
        x.drop(0);
        x.row(7, 0, 0);
        x.row(5, 1, 2);
        due("43: rows", x.count(0), 2);
        x.row(5, 2, 3);
        due("43: rows", x.count(0), 2);
        due("43: chairs", x.count(1), 3);
        x.watch(0, 1);
        x.nights(2);
        due("43: night", x.count(2), 2);
        due("43: watched", x.count(3), 1);
        due("43: legs", x.count(4), 26 - 3 - 3);
        due("43: caught", x.count(5), 1);
        due("43: acts", x.count(6), 3);
        x.feed(1);
        due("43: bytes", x.count(7), 1);
        due("43: what", x.count(8), BAD);
        due("43: what", x.count(-1), BAD);
    }

    private static void statuses() {
        ChairRanks x = told(THREE);
        x.row(0, 0, -1);
        due("44: row", x.status(), 4);
        x.row(9, 0, 0);
        due("44: BAD changes it not", x.status(), 4);
        x.calm();
        x.nights(1);
        due("44: calls without a row change it not", x.status(), 4);
        x.row(0, 0, 3);
        due("44: row", x.status(), 0);
        x.set(1, 0, 0);
        due("44: set", x.status(), 1);
        x.set(0, 0, 0);
        due("44: set", x.status(), 0);
        x.set(0, 3, 0);
        due("44: set", x.status(), 2);
        x.copy(0, 0, 0, 0, 0);
        due("44: copy", x.status(), 0);
        x.row(1, 1, 0);
        x.copy(0, 0, 1, 0, 0);
        due("44: copy", x.status(), 5);
        x.drop(1);
        due("44: drop", x.status(), 0);
        x.drop(1);
        due("44: drop", x.status(), 1);
        x.as(0, 1);
        due("44: as", x.status(), 0);
        x.as(0, 2);
        due("44: as", x.status(), 3);
        x.as(0, 6);
        due("44: as, BAD", x.status(), 3);
        fill(x, 0, 0, 2, 1, 0);
        x.as(0, 2);
        due("44: NONE is no finding", x.pile(0, 0) == NONE ? x.status() : 99, 0);
        x.sawdust(0, 1);
        due("44: sawdust", x.status(), 2);
        x.sawdust(0, 0);
        due("44: sawdust", x.status(), 0);
        x.set(0, 0, 0);
        x.pile(0, 0);
        due("44: pile", x.status(), 3);
        x.who(0, 0, 0, 0, 0, 3);
        due("44: who", x.status(), 0);
        x.who(0, 0, 0, 1, 0, 3);
        due("44: who", x.status(), 1);
        x.guarded(0, 0, 0, 3);
        due("44: guarded", x.status(), 0);
        x.guarded(0, 0, 1, 3);
        due("44: guarded", x.status(), 2);
        ChairRanks y = new ChairRanks();
        y.drop(0);
        y.sawdust(0, 0);
        due("44: STATE changes it not", y.status(), 1);
        y.feed(300);
        y.as(0, 0);
        due("44: BAD changes it not", y.status(), 1);
    }
}
