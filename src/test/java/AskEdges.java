/** Edges of images, kinds, asks, counts and status: promises 37 to 44. */
final class AskEdges {
    private static final String ALL = "tell m5,1;p10,0,0;r11,0,0;c12,0,0;o13,0,0;t14,0,0;";

    private AskEdges() {
    }

    static void all(Edges e) {
        images(e);
        restored(e);
        kinds(e);
        sizes(e);
        traces(e);
        counts(e);
        statuses(e);
        statusKept(e);
    }

    private static void images(Edges e) {
        e.edge("37", "An IMAGE (0, 1) is kept of the MINISTRY: 1.",
            ALL + " | image(0) = 1 | nights(3) | image(1) = 1 | nights(2) | restore(0) = 1 | count(2) = 0 | restore(1) = 1",
            "count(2) = 3 | image(0) = 1 | nights(1) | restore(0) = 1 | count(2) = 3",
            // It is no act, and what is done later does not change it.
            "new | " + ALL + " | mend(0) | image(0) = 1 | count(6) = 1 | mend(0) = 12 | undo() = 1 | undo() = 0 | restore(0) = 1",
            "chair(0, 0) = 11");
        e.edge("37", "BAD; STATE: no MINISTRY.",
            "image(0) = STATE | image(1) = STATE | image(2) = BAD | image(-1) = BAD | image(MIN) = BAD | image(MAX) = BAD",
            "tell x = -1000100 | image(0) = STATE | restore(0) = STATE | " + ALL + " | image(2) = BAD | image(-1) = BAD | image(1) = 1");
    }

    private static void restored(Edges e) {
        e.edge("38", "The MINISTRY is as an IMAGE kept it",
            "tell m2,5;p9,2,3;c8,3,3;o9,1,1; | watch(0, 1) | cushions(1, 6) | nights(1) | mend(0) | look | image(0) = 1",
            "change(0, 1) | nights(2) | watch(0, 0) | watch(2, 1) | saw(0, 9) | restore(0) = 1 | count(6) = 0",
            "count(1) = 3 | count(2) = 1 | count(3) = 1 | count(5) = 1 | chair(0, 0) = 14 | chair(1, 1) = 6 | chair(0, 5) = 2",
            "chair(0, 6) = 3 | chair(2, 8) = 1 | chair(2, 5) = 0 | watch(1, 1) = 3 | watch(2, 1) = FULL | mend(1) = 11");
        e.edge("38", "as an IMAGE kept it",
            // Of another ministry, with all that is its own: chairs, glue, watchmen; again and again.
            "tell m1,9;p1,0,0; | image(1) = 1 | " + ALL + " | restore(1) = 1 | count(1) = 1 | kind(1) = BAD | mend(0) = 10",
            "watch(0, 1) = 1 | restore(1) = 1 | chair(0, 0) = 1 | count(3) = 0 | tell x = -1000100 | restore(1) = 1");
        e.edge("38", "(no ACT can be undone then)",
            ALL + " | image(0) | nights(3) | mend(0) | restore(0) = 1 | count(6) = 0 | undo() = STATE | nights(1) = 4 | undo() = 0",
            "undo() = STATE | count(2) = 0");
        e.edge("38", "BAD; STATE: none was kept.",
            "restore(0) = STATE | restore(1) = STATE | restore(2) = BAD | restore(-1) = BAD | restore(MIN) = BAD",
            "restore(MAX) = BAD | " + ALL + " | nights(1) | image(1) | restore(0) = STATE | count(6) = 1 | restore(1) = 1");
        e.edge("38", "What is refused, or found, changes nothing",
            ALL + " | nights(2) | image(0) | mend(0) | look | restore(1) = STATE | restore(2) = BAD | same");
    }

    private static void kinds(Edges e) {
        e.edge("39", "The KIND of a CHAIR, as told (1 to 5). BAD.",
            "kind(0) = BAD | " + ALL + " | kind(0) = 1 | kind(1) = 2 | kind(2) = 3 | kind(3) = 4 | kind(4) = 5 | kind(5) = BAD",
            "kind(-1) = BAD | kind(MIN) = BAD | kind(MAX) = BAD | change(0, 4) | kind(0) = 1 | kind(4) = 5");
        e.edge("40", "A CHAIR is taken as one of a KIND (0 .. 5): its number.",
            ALL + " | as(0, 0) = 0 | as(1, 0) = 1 | as(2, 0) = 2 | as(3, 0) = 3 | as(4, 0) = 4");
        String[] words = {"0 CHAIR", "1 PLAIN, a CHAIR", "2 ROCKER, a PLAIN", "3 CUSHIONED, a PLAIN", "4 OAK, a CHAIR",
            "5 THRONE, an OAK"};
        int[] members = {1 + 2 + 4 + 8 + 16, 1 + 2 + 4, 2, 4, 8 + 16, 16};
        for (int kind = 0; kind < words.length; kind++) {
            StringBuilder script = new StringBuilder(ALL);
            for (int one = 0; one < 5; one++) {
                boolean is = (members[kind] >> one & 1) == 1;
                script.append(" | as(").append(one).append(", ").append(kind).append(") = ").append(is ? "" + one : "KIND");
                script.append(" | status() = ").append(is ? 0 : 3);
            }
            e.edge("40", words[kind], script.toString());
        }
        e.edge("40", "BAD; KIND: it is no such one.",
            "as(0, 0) = BAD | as(0, 1) = BAD | " + ALL + " | as(5, 0) = BAD | as(-1, 0) = BAD | as(0, 6) = BAD | as(0, -1) = BAD",
            "as(MIN, 5) = BAD | as(0, MAX) = BAD | status() = 0 | as(0, 5) = KIND | status() = 3 | as(4, 5) = 4 | status() = 0");
        e.edge("40 44", "3 KIND (a CHAIR that is not that)",
            ALL + " | look | as(3, 1) = KIND | status() = 3 | same but status | as(3, 9) = BAD | status() = 3");
    }

    private static void sizes(Edges e) {
        e.edge("41", "10 lent to all CHAIRS: LEG. 11 of PLAINS: what 10 gives, and MARK.",
            ALL + " | cushions(0, 7) | ask(0, 0) = 17 | cushions(0, 20) | ask(0, 0) = 30",
            // A cushioned one has no size of its own: that of plains, with its own mark.
            "cushions(2, 7) | ask(2, 0) = -979 | trace(0) = 11 | trace(1) = 10 | trace(2) = 22 | trace(3) = 21 | trace(4) = 20");
        e.edge("41", "12 of ROCKERS: 0 less what 11 gives.",
            ALL + " | cushions(1, 7) | ask(1, 0) = -27 | trace(0) = 12 | trace(1) = 11 | trace(2) = 10 | trace(3) = 24",
            "trace(4) = 21 | trace(5) = 20 | trace(6) = NONE | new | tell m0,1;r0,0,0; | ask(0, 0) = 0");
        e.edge("41", "13 of OAKS: what 10 gives, less 100. 14 of THRONES: what 13 gives, twice.",
            ALL + " | cushions(3, 7) | ask(3, 0) = -87 | trace(0) = 13 | trace(1) = 10 | trace(2) = NONE | ask(4, 0) = -172",
            "trace(0) = 14 | trace(1) = 13 | trace(2) = 10 | trace(3) = NONE",
            "new | tell m0,1;o0,0,0;t60,0,0; | ask(0, 0) = -100 | ask(1, 0) = -80");
        e.edge("41", "20 lent to all CHAIRS: the number. 21 of PLAINS: what 20 gives, and CUSHIONS.",
            "tell m0,1;p10,0,0;p10,0,0; | ask(0, 1) = 0 | ask(1, 1) = 1 | cushions(1, 20) | ask(1, 1) = 21 | trace(0) = 21",
            "trace(1) = 20 | trace(2) = NONE");
        e.edge("41", "22 of CUSHIONED ones: what 21 gives, less 1000.",
            ALL + " | cushions(2, 7) | ask(2, 1) = -991 | trace(0) = 22 | trace(1) = 21 | trace(2) = 20 | trace(3) = NONE");
        e.edge("41", "23 of OAKS: what 20 gives, less SIZE.",
            // A throne has no mark of its own: that of oaks, less its own size.
            ALL + " | ask(3, 1) = 90 | trace(0) = 23 | trace(1) = 20 | trace(2) = 13 | trace(3) = 10 | trace(4) = NONE",
            "ask(4, 1) = 176 | trace(0) = 23 | trace(1) = 20 | trace(2) = 14 | trace(3) = 13 | trace(4) = 10 | trace(5) = NONE");
        e.edge("41", "24 of ROCKERS: what 21 gives, twice.",
            ALL + " | cushions(1, 7) | ask(1, 1) = 16 | trace(0) = 24 | trace(1) = 21 | trace(2) = 20 | trace(3) = NONE");
        e.edge("41", "else that of the nearest KIND that it is, too, else the one that is lent",
            ALL + " | ask(2, 0) = -986 | trace(0) = 11 | ask(4, 1) = 176 | trace(0) = 23 | trace(1) = 20");
        e.edge("41", "SIZE, MARK within others are asked of the same CHAIR anew",
            // A rocker's size within asks for a rocker's mark, a throne's mark for a throne's size.
            "tell m0,1;p1,0,0;r10,0,0;t20,0,0; | cushions(1, 3) | ask(1, 0) = -18 | trace(3) = 24 | ask(2, 1) = 162 | trace(2) = 14");
        e.edge("41 42", "each of which leaves its number in THE TRACE as it begins",
            ALL + " | ask(1, 0) | trace(0) = 12 | trace(1) = 11 | trace(2) = 10 | trace(3) = 24 | trace(4) = 21 | trace(5) = 20");
        e.edge("41", "An ASK (0, 1) of a CHAIR. BAD.",
            "ask(0, 0) = BAD | " + ALL + " | ask(5, 0) = BAD | ask(-1, 0) = BAD | ask(0, 2) = BAD | ask(0, -1) = BAD",
            "ask(MIN, 0) = BAD | ask(MAX, 0) = BAD | ask(0, MIN) = BAD | ask(0, MAX) = BAD | trace(0) = NONE");
    }

    private static void traces(Edges e) {
        e.edge("42", "Number i of THE TRACE; NONE.",
            "trace(0) = NONE | trace(-1) = NONE | trace(MIN) = NONE | trace(MAX) = NONE | " + ALL + " | trace(0) = NONE",
            "ask(0, 1) | trace(0) = 21 | trace(1) = 20 | trace(2) = NONE | trace(-1) = NONE | trace(MIN) = NONE | trace(MAX) = NONE");
        e.edge("42", "(the first 16)", ALL + " | ask(1, 0) | trace(5) = 20 | trace(6) = NONE | trace(15) = NONE | trace(16) = NONE");
        e.edge("41 42", "THE TRACE is empty ahead of it.",
            ALL + " | ask(1, 0) | trace(5) = 20 | ask(0, 1) | trace(0) = 21 | trace(1) = 20 | trace(2) = NONE | trace(5) = NONE",
            "4 times ask(1, 0) | trace(0) = 12 | trace(5) = 20 | trace(6) = NONE",
            // What is refused leaves it as it is, as does all else.
            "ask(5, 0) = BAD | ask(0, 2) = BAD | trace(0) = 12 | trace(5) = 20 | nights(1) | undo() | kind(0) | as(0, 1)",
            "tell m0,1;p0,0,0; | trace(0) = 12 | trace(5) = 20");
    }

    private static void counts(Edges e) {
        e.edge("43", "How many: 0 ROWS",
            "count(0) = 0 | row(0, 0, 0) | count(0) = 1 | row(7, 2, 40) | count(0) = 2 | row(7, 1, 1) | count(0) = 2 | drop(0)",
            "count(0) = 1 | row(1, 0, -1) = SIZE | count(0) = 1 | row(0, 0, 1) | row(1, 0, 1) | row(2, 0, 1) | row(3, 0, 1)",
            "row(4, 0, 1) | row(5, 0, 1) | row(6, 0, 1) | count(0) = 8");
        e.edge("43", "1 CHAIRS, 2 NIGHT",
            "count(1) = 0 | count(2) = 0 | " + ALL + " | count(1) = 5 | nights(24) | nights(2) | count(2) = 26 | undo() | count(2) = 25");
        e.edge("43", "3 which are WATCHED (bits)",
            "count(3) = 0 | " + ALL + " | watch(4, 1) | watch(0, 1) | count(3) = 17 | watch(4, 0) | count(3) = 1");
        e.edge("43", "4 all LEGS together",
            "count(4) = 0 | " + ALL + " | count(4) = 60 | mend(0) | count(4) = 61 | cushions(0, 9) | count(4) = 61",
            "new | tell m0,1;p60,0,0;r60,0,0;c60,0,0;o60,0,0;t60,0,0;p60,0,0; | count(4) = 360");
        e.edge("43", "5 how often sitters were CAUGHT",
            "count(5) = 0 | tell m1,1;p60,0,0;p0,9,2;p0,9,2; | watch(0, 1) | nights(1) | count(5) = 2 | nights(9) | count(5) = 18",
            "change(0, 1) | count(5) = 18 | undo() | undo() | count(5) = 18 | undo() | count(5) = 16");
        e.edge("43", "6 ACTS that can be undone",
            "count(6) = 0 | " + ALL + " | count(6) = 0 | mend(0) | count(6) = 1 | nights(24) | count(6) = 24 | undo() | count(6) = 23");
        e.edge("43", "7 bytes on the tape. BAD.",
            "count(7) = 0 | feed(0) | count(7) = 1 | 119 times feed(0) | count(7) = 120 | feed(0) = FULL | count(7) = 120",
            "ministry() = -1000100 | count(7) = 0 | count(8) = BAD | count(-1) = BAD | count(MIN) = BAD | count(MAX) = BAD");
    }

    private static void statuses(Edges e) {
        e.edge("44", "0: it had none, or there was none.",
            "status() = 0 | row(0, 0, -1) = SIZE | status() = 4 | status() = 4 | row(0, 0, 3) | status() = 0");
        String ready = "tell m0,1;p9,0,0;p8,0,0; | fill 0 bytes 0 1 | fill 1 bytes 0 1 | row(7, 0, -1) = SIZE | status() = 4";
        String[] fine = {"row(2, 0, 1)", "set(0, 0, 0)", "copy(0, 0, 1, 0, 2)", "drop(0)", "sawdust(0, 0)", "pile(0, 0)",
            "who(0, 0, 0, 0, 0, 1)", "guarded(0, 0, 0, 1)", "as(0, 0)"};
        String[] bad = {"row(8, 0, 1)", "set(8, 0, 0)", "copy(0, 0, 8, 0, 2)", "drop(8)", "sawdust(8, 0)", "pile(8, 0)",
            "who(0, 0, 0, 8, 0, 1)", "guarded(0, 8, 0, 1)", "as(0, 6)"};
        String[] found = {"row(2, 0, -1) = SIZE | status() = 4", "set(0, 9, 0) = PLACE | status() = 2",
            "copy(0, 0, 2, 0, 2) = NULL | status() = 1", "drop(2) = NULL | status() = 1", "sawdust(0, 1) = PLACE | status() = 2",
            "pile(2, 0) = NULL | status() = 1", "who(0, 0, 0, 0, 2, 1) = PLACE | status() = 2",
            "guarded(0, 2, 0, 1) = NULL | status() = 1", "as(0, 5) = KIND | status() = 3"};
        String[] promises = {"2", "3", "4", "5", "26", "27", "33", "34", "40"};
        for (int k = 0; k < fine.length; k++) {
            e.edge("44 " + promises[k], "Of the latest call with a ROW, or as(), that was not BAD, STATE, FULL",
                ready, bad[k] + " = BAD | status() = 4", found[k], fine[k] + " | status() = 0");
        }
    }

    private static void statusKept(Edges e) {
        e.edge("44", "that was not BAD, STATE, FULL: the number of its FINDING",
            "drop(0) = NULL | sawdust(0, 0) = STATE | status() = 1 | pile(0, 0) = STATE | status() = 1 | as(0, 0) = BAD",
            "guarded(0, 0, 0, 1) = BAD | who(0, 0, 0, 0, 0, 1) = BAD | status() = 1 | row(0, 0, 41) = BAD | status() = 1",
            // Calls without a row, whatever they answer, say nothing of it.
            "feed(256) = BAD | undo() = STATE | nights(1) = STATE | 120 times feed(0) | feed(0) = FULL | ministry() = -1000100",
            "fault() = 1 | calm() = STATE | count(0) = 0 | image(0) = STATE | trace(0) = NONE | status() = 1",
            "tell m0,1;p9,0,0; | chair(0, 0) = 9 | nights(1) = 0 | mend(0) = 10 | undo() = 1 | ask(0, 0) = 9 | status() = 1");
        e.edge("26 27 44", "NONE: they can not.",
            "tell m0,1;o9,0,0;o9,0,0; | cushions(0, 1) | fill 0 bytes 1 0 | as(0, 5) = KIND | pile(0, 0) = NONE | status() = 0",
            "new | tell m0,1;p0,0,0;p0,0,0; | fill 0 bytes 1 0 | as(0, 5) = KIND | sawdust(0, 0) = NONE | status() = 0");
    }
}
