/**
 * Every number of every call at its least and its most, and beyond them on both sides, with all
 * else as told: what is beyond is refused, or found, and changes nothing that can be seen.
 */
final class BoundEdges {
    private static final String READY = "tell m2,5;p9,2,3;c8,3,3;o59,1,1; | watch(2, 1) | nights(2) | cushions(1, 4)"
        + " | fill 0 bytes 0 1 2 | fill 1 bytes 2 1 0 | row(2, 2, 12) | image(0) | image(1) | row(3, 0, -1) = SIZE | ask(1, 0)";

    private BoundEdges() {
    }

    static void all(Edges e) {
        rows(e);
        acts(e);
        foretold(e);
        counted(e);
        rowsForetold(e);
        chairsTold(e);
        noChairs(e);
    }

    /** The number that # stands for goes from least to most; below and above are what is answered beyond. */
    private static void bound(Edges e, String promise, String words, String call, int least, int most, String... beyond) {
        String below = beyond.length > 0 ? beyond[0] : "BAD";
        String above = beyond.length > 1 ? beyond[1] : below;
        String same = below.equals("BAD") && above.equals("BAD") ? "same" : "same but status";
        e.edge(promise, words,
            READY + " | look | " + at(call, least - 1) + " = " + below + " | " + at(call, "MIN") + " = " + below,
            at(call, most + 1) + " = " + above + " | " + at(call, "MAX") + " = " + above + " | " + same,
            "new", READY, notBad(call, least), "new", READY, notBad(call, most));
    }

    private static String at(String call, Object number) {
        return call.replace("#", String.valueOf(number));
    }

    private static String notBad(String call, int number) {
        return "not BAD: " + at(call, number);
    }

    private static void rows(Edges e) {
        String rows = "ROWS 0 .. 7";
        bound(e, "2", rows, "row(#, 0, 1)", 0, 7);
        bound(e, "2", "LANE (0 bytes, 1 shorts, 2 ints)", "row(3, #, 1)", 0, 2);
        bound(e, "2", "0 to 40 ITEMS", "row(3, 0, #)", 0, 40, "SIZE", "BAD");
        bound(e, "3", rows, "set(#, 0, 0)", 0, 7);
        bound(e, "3", "BAD: ROW; NULL; PLACE.", "set(0, #, 0)", 0, 2, "PLACE");
        bound(e, "4", rows, "copy(#, 0, 1, 0, 1)", 0, 7);
        bound(e, "4", rows, "copy(0, 0, #, 0, 1)", 0, 7);
        bound(e, "4", "PLACE (i, j, n below 0, or beyond an end)", "copy(0, #, 1, 0, 1)", 0, 2, "PLACE");
        bound(e, "4", "PLACE (i, j, n below 0, or beyond an end)", "copy(0, 0, 1, #, 1)", 0, 2, "PLACE");
        bound(e, "4", "PLACE (i, j, n below 0, or beyond an end)", "copy(0, 0, 1, 0, #)", 0, 3, "PLACE");
        bound(e, "5", rows, "drop(#)", 0, 7);
        bound(e, "6", "A byte (0 to 255)", "feed(#)", 0, 255);
    }

    private static void acts(Edges e) {
        String chairs = "there is no such thing";
        bound(e, "10", "n NIGHTS (1 to 24)", "nights(#)", 1, 24);
        bound(e, "11", chairs, "cushions(#, 0)", 0, 2);
        bound(e, "11", "CUSHIONS (0 to 20)", "cushions(0, #)", 0, 20);
        bound(e, "12", chairs, "mend(#)", 0, 2);
        bound(e, "13", chairs, "watch(#, 1)", 0, 2);
        bound(e, "13", "WATCHED (1), or no more (0)", "watch(0, #)", 0, 1);
        bound(e, "14", chairs, "change(#, 1)", 0, 2);
        bound(e, "14", chairs, "change(1, #)", 0, 2);
        bound(e, "15", chairs, "saw(#, 0)", 0, 2);
        bound(e, "15", "SAW (0 to 9)", "saw(0, #)", 0, 9);
        bound(e, "16", chairs, "chair(#, 0)", 0, 2);
        bound(e, "16", "0 LEG, 1 CUSHIONS, 2 HIGH, 3 RANK", "chair(0, #)", 0, 8);
        bound(e, "17", "BAD: no such one.", "ranked(#)", 0, 2);
    }

    private static void foretold(Edges e) {
        String chairs = "a number is not as told; there is no such thing";
        String ranks = "r (0 to 5)";
        bound(e, "18", chairs, "ahead(#, 0, 0)", 0, 2);
        bound(e, "18", "n NIGHTS (0 to 60)", "ahead(0, #, 0)", 0, 60);
        bound(e, "18", "HIGH (what = 0), RANK (1), LEG (2)", "ahead(0, 0, #)", 0, 2);
        bound(e, "19", "MINISTER behind n NIGHTS (0 to 60)", "minister(#)", 0, 60);
        bound(e, "20", chairs, "floor(#)", 0, 2);
        bound(e, "21", chairs, "rises(#, 0)", 0, 2);
        bound(e, "21", ranks, "rises(0, #)", 0, 5);
        bound(e, "23", chairs, "cushionFor(#, 0, 0)", 0, 2);
        bound(e, "23", ranks, "cushionFor(0, #, 0)", 0, 5);
        bound(e, "23", "CUSHION for a CHAIR, r, n NIGHTS (0 to 30)", "cushionFor(0, 0, #)", 0, 30);
        bound(e, "24", chairs, "guard(#, 0, 0, 0)", 0, 2);
        bound(e, "24", ranks, "guard(0, #, 0, 0)", 0, 5);
        bound(e, "24", "GUARD for a CHAIR, r, n NIGHTS (0 to 30)", "guard(0, 0, #, 0)", 0, 30);
        bound(e, "24", "how many (what = 0), which (1)", "guard(0, 0, 0, #)", 0, 1);
        bound(e, "25", "BEST WATCH for n NIGHTS (1 to 30)", "bestWatch(#, 0)", 1, 30);
        bound(e, "25", "which (what = 0), how much (1)", "bestWatch(1, #)", 0, 1);
        bound(e, "28", chairs, "climb(#)", 0, 2);
        bound(e, "29", "COALITIONS: how many (what = 0), which (1)", "coalition(#)", 0, 1);
        bound(e, "30", chairs, "sawnBy(#)", 0, 2);
        bound(e, "32", chairs, "enemy(#, 1, 0)", 0, 2);
        bound(e, "32", "ENEMY for n NIGHTS (1 to 30)", "enemy(0, #, 0)", 1, 30);
        bound(e, "32", "who (what = 0), how HIGH (1)", "enemy(0, 1, #)", 0, 1);
    }

    private static void counted(Edges e) {
        String chairs = "there is no such thing";
        bound(e, "35", chairs, "doze(#, 0, 0, 0, 0)", 0, 2);
        bound(e, "35", "r (0 to 5)", "doze(0, #, 0, 0, 0)", 0, 5);
        bound(e, "35", "behind n NIGHTS (0 to 30): a fraction", "doze(0, 0, #, 0, 0)", 0, 30);
        bound(e, "35", "p of 10 (0 to 10)", "doze(0, 0, 0, #, 0)", 0, 10);
        bound(e, "35", "above (what = 0), below (1)", "doze(0, 0, 0, 0, #)", 0, 1);
        bound(e, "36", "YEARS of n NIGHTS (0 to 60)", "drawn(#, 1, 0)", 0, 60);
        bound(e, "36", "a SEED (1 to 999999)", "drawn(1, #, 0)", 1, 999999);
        bound(e, "36", "who (what = 0), LEGS (1)", "drawn(1, 1, #)", 0, 1);
        bound(e, "37", "An IMAGE (0, 1)", "image(#)", 0, 1);
        bound(e, "38", "An IMAGE (0, 1)", "restore(#)", 0, 1);
        bound(e, "39", chairs, "kind(#)", 0, 2);
        bound(e, "40", chairs, "as(#, 0)", 0, 2);
        bound(e, "40", "a KIND (0 .. 5)", "as(0, #)", 0, 5);
        bound(e, "41", chairs, "ask(#, 0)", 0, 2);
        bound(e, "41", "An ASK (0, 1)", "ask(0, #)", 0, 1);
        bound(e, "42", "Number i of THE TRACE; NONE.", "trace(#)", 0, 5, "NONE");
        bound(e, "43", "7 bytes on the tape", "count(#)", 0, 7);
    }

    private static void rowsForetold(Edges e) {
        String told = "BAD: CHAIR, which, OTHER, ROW, n; NULL; PLACE.";
        bound(e, "26", "BAD: ROW", "sawdust(#, 0)", 0, 7);
        bound(e, "26", "NULL; PLACE; KIND: no order.", "sawdust(0, #)", 0, 0, "PLACE");
        bound(e, "27", "BAD: ROW", "pile(#, 0)", 0, 7);
        bound(e, "27", "NULL; PLACE; KIND: no order.", "pile(0, #)", 0, 0, "PLACE");
        bound(e, "33", told, "who(#, 0, 0, 2, 0, 1)", 0, 2);
        bound(e, "33", "KINDS (which = 0), SAWS (1), GRUDGES (2) of one", "who(0, #, 0, 2, 0, 1)", 0, 2);
        bound(e, "33", told, "who(0, 0, #, 2, 0, 1)", 0, 2);
        bound(e, "33", told, "who(0, 0, 0, #, 0, 1)", 0, 7);
        bound(e, "33", told, "who(0, 0, 0, 2, #, 1)", 0, 11, "PLACE");
        bound(e, "33", "n NIGHTS (1 to 12)", "who(0, 0, 0, 2, 0, #)", 1, 12);
        bound(e, "34", "BAD: CHAIR, ROW, n; NULL; PLACE.", "guarded(#, 2, 0, 1)", 0, 2);
        bound(e, "34", "BAD: CHAIR, ROW, n; NULL; PLACE.", "guarded(0, #, 0, 1)", 0, 7);
        bound(e, "34", "BAD: CHAIR, ROW, n; NULL; PLACE.", "guarded(0, 2, #, 1)", 0, 11, "PLACE");
        bound(e, "34", "n NIGHTS (1 to 12)", "guarded(0, 2, 0, #)", 1, 12);
    }

    private static final String[] BY_CHAIR = {
        "11 cushions(#, 0)", "12 mend(#)", "13 watch(#, 1)", "15 saw(#, 0)", "16 chair(#, 0)", "17 ranked(#)", "18 ahead(#, 0, 0)",
        "20 floor(#)", "21 rises(#, 0)", "23 cushionFor(#, 0, 0)", "24 guard(#, 0, 0, 0)", "28 climb(#)", "30 sawnBy(#)",
        "32 enemy(#, 1, 0)", "33 who(#, 0, 0, 0, 0, 1)", "33 who(0, 0, #, 0, 0, 1)", "34 guarded(#, 0, 0, 1)",
        "35 doze(#, 0, 0, 0, 0)", "39 kind(#)", "40 as(#, 0)", "41 ask(#, 0)",
    };

    /** There are as many chairs as were told of, be it one or six, and none that an earlier ministry had. */
    private static void chairsTold(Edges e) {
        for (String told : BY_CHAIR) {
            String call = told.substring(3);
            e.edge(told.substring(0, 2), "there is no such thing",
                "tell m5,1;p1,0,0;p1,0,0;p1,0,0;p1,0,0;p1,0,0;p1,0,0; | row(0, 0, 1) | not BAD: " + at(call, 5) + " | "
                    + at(call, 6) + " = BAD | not BAD: " + at(call, 0) + " | " + at(call, -1) + " = BAD",
                "tell m5,1;p1,0,0; | not BAD: " + at(call, 0) + " | " + at(call, 1) + " = BAD | " + at(call, 5) + " = BAD");
        }
    }

    /** Without a ministry there are no chairs, and a text with a fault makes none. */
    private static void noChairs(Edges e) {
        for (String told : BY_CHAIR) {
            String call = told.substring(3);
            e.edge("1 " + told.substring(0, 2), "BAD (a number is not as told; there is no such thing)",
                at(call, 0) + " = BAD | " + at(call, -1) + " = BAD | tell m0,1;p9,0,0;p9,0,4; = -1000117 | " + at(call, 0) + " = BAD",
                "status() = 0 | count(6) = 0");
        }
        e.edge("1 14", "BAD (a number is not as told; there is no such thing)", "change(0, 1) = BAD | change(1, 0) = BAD | count(6) = 0");
    }
}
