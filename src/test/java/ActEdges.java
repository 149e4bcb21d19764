/** Edges of what is done: how high one sits, ranks, grudges, nights, acts; promises 9 to 17. */
final class ActEdges {
    /** Ranks 0, 2, 1. In a night 0 saws 1 by 2, 1 saws the oak by 3 / 2, 2 saws 0 by 1. */
    private static final String THREE = "tell m1,5;p9,2,3;c8,3,3;o9,1,1;";

    private ActEdges() {
    }

    static void all(Edges e) {
        highs(e);
        ranks(e);
        grudges(e);
        nightsOne(e);
        nightsMany(e);
        undone(e);
        kept(e);
        cushions(e);
        mends(e);
        watches(e);
        changes(e);
        saws(e);
        refused(e);
    }

    private static void highs(Edges e) {
        e.edge("16", "a plain one LEG and CUSHIONS",
            "tell m0,1;p0,0,0;p60,0,0; | chair(0, 2) = 0 | cushions(0, 20) | chair(0, 2) = 20",
            "chair(1, 2) = 60 | cushions(1, 20) | chair(1, 2) = 80");
        e.edge("16", "one that rocks so, but 1 less, if that is odd",
            "tell m0,1;r0,0,0;r1,0,0;r2,0,0;r59,0,0;r60,0,0;",
            "chair(0, 2) = 0 | chair(1, 2) = 0 | chair(2, 2) = 2 | chair(3, 2) = 58 | chair(4, 2) = 60",
            "cushions(0, 1) | chair(0, 2) = 0 | cushions(1, 1) | chair(1, 2) = 2 | cushions(4, 19) | chair(4, 2) = 78",
            "cushions(4, 20) | chair(4, 2) = 80");
        e.edge("16", "a cushioned one LEG and twice CUSHIONS",
            "tell m0,1;c0,0,0;c60,0,0; | chair(0, 2) = 0 | cushions(0, 1) | chair(0, 2) = 2 | cushions(0, 20) | chair(0, 2) = 40",
            "cushions(1, 20) | chair(1, 2) = 100");
        e.edge("16", "of oak LEG alone",
            "tell m0,1;o0,0,0;o60,0,0; | cushions(0, 20) | cushions(1, 20) | chair(0, 2) = 0 | chair(1, 2) = 60");
        e.edge("16", "a throne LEG, and 5 more, if LEG is above 0",
            "tell m0,1;t0,0,0;t1,0,0;t60,0,0; | chair(0, 2) = 0 | chair(1, 2) = 6 | chair(2, 2) = 65",
            "cushions(0, 20) | cushions(1, 20) | chair(0, 2) = 0 | chair(1, 2) = 6 | mend(0) = 1 | chair(0, 2) = 6");
    }

    private static void ranks(Edges e) {
        e.edge("16 17", "RANK: how many others are HIGHER (more HIGH, or alike, and of lesser number): 0 is the minister.",
            "tell m0,1;p5,0,0;t0,0,0;p6,0,0;r7,0,0;o5,0,0; | chair(2, 3) = 0 | chair(3, 3) = 1 | chair(0, 3) = 2",
            "chair(4, 3) = 3 | chair(1, 3) = 4",
            "ranked(0) = 2 | ranked(1) = 3 | ranked(2) = 0 | ranked(3) = 4 | ranked(4) = 1");
        e.edge("16 17", "alike, and of lesser number",
            "tell m0,1;p7,0,0;p7,0,0;p7,0,0;p7,0,0;p7,0,0;p7,0,0; | chair(0, 3) = 0 | chair(1, 3) = 1 | chair(2, 3) = 2",
            "chair(3, 3) = 3 | chair(4, 3) = 4 | chair(5, 3) = 5 | ranked(0) = 0 | ranked(5) = 5",
            "cushions(5, 1) | ranked(0) = 5 | ranked(1) = 0 | ranked(5) = 4");
        e.edge("17", "The CHAIR of RANK r.",
            "tell m0,1;t0,0,0;c3,0,0;r9,0,0; | ranked(0) = 2 | ranked(1) = 1 | ranked(2) = 0 | cushions(1, 3) | ranked(0) = 1",
            "mend(0) = 1 | ranked(0) = 1 | ranked(1) = 2 | ranked(2) = 0");
        e.edge("17", "BAD: no such one.",
            "ranked(0) = BAD | tell m0,1;p1,0,0; | ranked(0) = 0 | ranked(1) = BAD | ranked(-1) = BAD | ranked(MIN) = BAD",
            "ranked(MAX) = BAD | tell " + Edges.SIX_STILL + " | ranked(5) = 0 | ranked(6) = BAD");
    }

    private static void grudges(Edges e) {
        e.edge("16", "by GRUDGE: 0 nobody",
            "tell m0,1;p9,9,0;p8,9,0;p7,9,0; | chair(0, 7) = NONE | chair(1, 7) = NONE | chair(2, 7) = NONE | nights(1) = 0",
            "count(4) = 24");
        e.edge("16", "1 the one of RANK 1 less (nobody, if he is minister)",
            "tell m0,1;p7,9,1;p9,9,1;p8,9,1; | chair(0, 7) = 2 | chair(1, 7) = NONE | chair(2, 7) = 1",
            "new | tell m0,1;p7,9,1;p7,9,1; | chair(0, 7) = NONE | chair(1, 7) = 0 | new | tell m0,1;p7,9,1; | chair(0, 7) = NONE");
        e.edge("16", "2 the minister (nobody, if he is that)",
            "tell m0,1;p7,9,2;p9,9,2;p8,9,2; | chair(0, 7) = 1 | chair(1, 7) = NONE | chair(2, 7) = 1",
            "new | tell m0,1;p7,9,2; | chair(0, 7) = NONE");
        e.edge("16", "3 the sitter of the next number (0 behind the last; nobody, if he is alone)",
            "tell m0,1;p7,9,3;p9,9,3;p8,9,3; | chair(0, 7) = 1 | chair(1, 7) = 2 | chair(2, 7) = 0",
            "new | tell m0,1;p7,9,3; | chair(0, 7) = NONE | nights(1) = 0 | chair(0, 0) = 7",
            "new | tell m0,1;p7,9,3;p7,9,3;p7,9,3;p7,9,3;p7,9,3;p7,9,3; | chair(4, 7) = 5 | chair(5, 7) = 0");
        e.edge("16", "He would saw that CHAIR, if SAW is above 0",
            "tell m0,1;p9,0,3;p8,0,1;p7,0,2; | chair(0, 7) = NONE | chair(1, 7) = NONE | chair(2, 7) = NONE",
            "saw(0, 1) | saw(1, 1) | saw(2, 1) | chair(0, 7) = 1 | chair(1, 7) = 0 | chair(2, 7) = 0");
        e.edge("10", "by as much as SAW; one of oak, a throne by half of that (cut)",
            "tell m0,1;p60,9,3;r60,9,3;c60,9,3;o60,9,3;t60,9,3;p60,9,3; | nights(1) | chair(0, 0) = 51 | chair(1, 0) = 51",
            "chair(2, 0) = 51 | chair(3, 0) = 56 | chair(4, 0) = 56 | chair(5, 0) = 51",
            "new | tell m0,1;p60,1,3;r60,1,3;c60,1,3;o60,1,3;t60,1,3;p60,1,3; | nights(1) | chair(0, 0) = 59 | chair(1, 0) = 59",
            "chair(2, 0) = 59 | chair(3, 0) = 60 | chair(4, 0) = 60 | chair(5, 0) = 59",
            "new | tell m0,1;o60,2,3;t60,2,3; | nights(1) | chair(0, 0) = 59 | chair(1, 0) = 59",
            "new | tell m0,1;o60,3,3;t60,3,3; | nights(1) | chair(0, 0) = 59 | chair(1, 0) = 59");
        e.edge("10 16", "All that is divided is cut towards 0",
            "tell m0,1;o9,7,3;t9,5,3; | nights(1) = 1 | chair(0, 0) = 7 | chair(1, 0) = 6");
    }

    private static void nightsOne(Edges e) {
        e.edge("10", "A NIGHT, by RANKS as they are ahead of it",
            // 1 and 2 both saw 0, though 0 is minister no more as soon as one of them has.
            "tell m0,1;p9,0,0;p8,9,2;p7,9,2; | nights(1) = 1 | chair(0, 0) = 0 | chair(1, 0) = 8 | chair(2, 0) = 7",
            "nights(1) = 2 | chair(1, 0) = 0 | chair(2, 0) = 7",
            // 2 grudges 1 by rank, though 1 has fallen by then; 1 grudges 0, and 0 grudges 1.
            "new | tell m0,1;p9,9,3;p8,1,1;p7,5,1; | nights(1) = 0 | chair(0, 0) = 8 | chair(1, 0) = 0 | chair(2, 0) = 7");
        e.edge("10", "each sitter who would saw a CHAIR does",
            "tell m0,1;p60,0,0;p0,1,2;p0,2,2;p0,3,2;p0,4,2;p0,5,3; | nights(1) = 0 | chair(0, 0) = 45");
        e.edge("10 16", "if it is WATCHED, he is CAUGHT",
            "tell m2,1;p60,0,0;p0,1,2;p0,2,2;p9,3,2; | watch(0, 1) = 1 | nights(1) = 0 | chair(0, 0) = 60 | count(5) = 3",
            "chair(0, 8) = 0 | chair(1, 8) = 1 | chair(2, 8) = 1 | chair(3, 8) = 1",
            // Who would saw off half of 1, that is nothing, would saw.
            "new | tell m1,1;o9,0,0;p0,1,2; | watch(0, 1) = 1 | nights(1) = 0 | chair(1, 8) = 1 | chair(1, 5) = 0");
        e.edge("10", "if not, its LEG is so much less (0 at least)",
            "tell m0,1;p5,0,0;p5,5,3; | nights(1) = 1 | chair(0, 0) = 0 | new | tell m0,1;p5,0,0;p5,6,3; | nights(1) = 1",
            "chair(0, 0) = 0 | nights(5) = 1 | chair(0, 0) = 0 | chair(1, 0) = 5 | chair(1, 8) = 0 | chair(1, 5) = 6",
            "new | tell m0,1;p5,0,0;p5,4,3; | nights(1) = 1 | chair(0, 0) = 1",
            "new | tell m0,1;p3,0,0;p0,2,2;p0,2,2;p0,2,2; | nights(1) = 0 | chair(0, 0) = 0");
        e.edge("10", "Who is CAUGHT has SAW 1 less, from the next NIGHT on.",
            "tell m1,1;p60,0,0;p0,2,3; | watch(0, 1) | nights(1) | chair(1, 5) = 1 | chair(1, 8) = 1 | nights(1)",
            "chair(1, 5) = 0 | chair(1, 8) = 2 | nights(3) | chair(1, 5) = 0 | chair(1, 8) = 2 | chair(0, 0) = 60",
            "new | tell m1,1;p60,0,0;p0,9,3; | watch(0, 1) | nights(1) | watch(0, 0) = 0 | nights(1) | chair(0, 0) = 52",
            "chair(1, 5) = 8 | chair(1, 8) = 1",
            "new | tell m1,1;p60,0,0;p0,9,3; | watch(0, 1) | nights(24) | chair(1, 5) = 0 | chair(1, 8) = 9");
        e.edge("10 43", "NIGHT is 1 more.",
            "tell m0,1;p1,0,0; | nights(1) = 0 | count(2) = 1 | nights(1) = 0 | count(2) = 2 | nights(24) = 0 | count(2) = 26");
        e.edge("10 13", "a CHAIR is WATCHED",
            "tell m1,1;p9,0,0;p0,1,3; | watch(0, 1) | nights(2) | count(3) = 1 | chair(0, 4) = 1 | chair(0, 0) = 9");
    }

    private static void nightsMany(Edges e) {
        e.edge("10", "n NIGHTS (1 to 24), an ACT each: who is minister then.",
            "tell m0,1;p9,0,0;p8,2,2; | nights(0) = BAD | nights(25) = BAD | nights(-1) = BAD | nights(MIN) = BAD",
            "nights(MAX) = BAD | count(2) = 0 | nights(1) = 1 | count(6) = 1 | nights(24) = 1 | count(2) = 25 | count(6) = 24");
        e.edge("10", "an ACT each",
            "tell m0,1;p9,0,0;p0,1,2; | nights(3) = 0 | count(6) = 3 | undo() = 2 | chair(0, 0) = 7 | count(2) = 2",
            "undo() = 1 | chair(0, 0) = 8 | undo() = 0 | chair(0, 0) = 9 | count(2) = 0");
        e.edge("10", "STATE: no MINISTRY (ahead of BAD)",
            "nights(1) = STATE | nights(0) = STATE | nights(25) = STATE | nights(MIN) = STATE | count(2) = 0");
        e.edge("10", "FULL: NIGHT would be above 999.",
            "tell m0,1;p9,0,0; | 41 times nights(24) = 0 | count(2) = 984 | nights(16) = FULL | nights(24) = FULL",
            "count(2) = 984 | count(6) = 24 | nights(15) = 0 | count(2) = 999 | nights(1) = FULL | count(2) = 999",
            // Others come first.
            "nights(25) = BAD | nights(0) = BAD | nights(MAX) = BAD",
            "undo() = 23 | count(2) = 998 | nights(2) = FULL | nights(1) = 0 | count(2) = 999");
        e.edge("10 18", "FORETOLD (nothing changes).",
            "tell m0,1;p60,0,0;p0,1,3; | saw(1, 0) | 41 times nights(24) | nights(15) = 0 | saw(1, 1) | count(2) = 999",
            "nights(1) = FULL | ahead(0, 60, 2) = 0 | ahead(0, 59, 2) = 1 | minister(60) = 0 | floor(0) = 60 | count(2) = 999");
    }

    private static void undone(Edges e) {
        e.edge("9", "STATE: none.",
            "undo() = STATE | " + THREE + " | undo() = STATE | mend(0) = 14 | undo() = 0 | undo() = STATE | chair(0, 0) = 9");
        e.edge("9", "The latest ACT is undone: how many can be undone yet.",
            THREE + " | cushions(0, 1) | cushions(0, 2) | cushions(0, 3) | undo() = 2 | chair(0, 1) = 2 | undo() = 1",
            "chair(0, 1) = 1 | undo() = 0 | chair(0, 1) = 0");
        e.edge("9 10", "each can be undone, the latest first): a NIGHT",
            THREE + " | cushions(1, 2) | watch(0, 1) | look | nights(1) | count(5) = 1 | count(4) = 23 | undo() = 2 | same");
        e.edge("9 11", "CUSHIONS of a CHAIR are others (0 to 20)",
            THREE + " | cushions(0, 4) | look | cushions(0, 20) = 4 | undo() = 1 | same | cushions(0, 0) = 4 | undo() = 1 | same");
        e.edge("9 12", "it is mended: LEG is GLUE more (60 at most)",
            "tell m0,5;p54,0,0;p55,0,0;p56,0,0; | look | mend(0) = 59 | undo() = 0 | same | mend(1) = 60 | undo() = 0 | same",
            "mend(2) = 60 | undo() = 0 | same");
        e.edge("9 13", "a CHAIR is WATCHED (WATCHMEN at most), or no more",
            "tell m2,5;p9,2,3;c8,3,3;o9,1,1; | watch(2, 1) = 4 | look | watch(0, 1) = 5 | undo() = 1 | same",
            "watch(2, 0) = 0 | undo() = 1 | same");
        e.edge("9 14", "two sitters change places",
            THREE + " | watch(0, 1) | nights(1) | look | change(1, 2) | undo() = 2 | same | change(2, 0) | undo() = 2 | same");
        e.edge("9 15", "SAW of a sitter is another (0 to 9)",
            THREE + " | look | saw(0, 9) = 2 | undo() = 0 | same | saw(1, 0) = 3 | undo() = 0 | same");
        e.edge("9", "each can be undone",
            "tell m0,1;p9,0,0;p8,2,2; | row(0, 0, 3) | image(0) | set(0, 9, 0) = PLACE | tell x = -1000100 | ask(0, 0) = 9",
            // What is no act is not undone.
            "undo() = STATE | nights(1) = 1 | undo() = 0 | count(0) = 1 | status() = 2 | fault() = 1 | trace(0) = 11",
            "restore(0) = 1");
    }

    private static String each(String call, int from, int to) {
        StringBuilder script = new StringBuilder();
        for (int k = from; k <= to; k++) {
            script.append(call.replace("#", String.valueOf(k))).append('\n');
        }
        return script.toString();
    }

    private static String undos(int from) {
        StringBuilder script = new StringBuilder();
        for (int k = from - 1; k >= 0; k--) {
            script.append("undo() = ").append(k).append('\n');
        }
        return script.append("undo() = STATE").toString();
    }

    private static void kept(Edges e) {
        e.edge("9", "24 at most are kept, of more the oldest is forgotten",
            "tell m0,1;p9,0,0; | nights(23) | count(6) = 23 | cushions(0, 5) | count(6) = 24", undos(24),
            "count(2) = 0 | chair(0, 1) = 0",
            "new | tell m0,1;p9,0,0; | nights(24) | cushions(0, 5) | count(6) = 24", undos(24), "count(2) = 1 | chair(0, 1) = 0");
        e.edge("9", "of more the oldest is forgotten",
            "tell m0,1;p9,0,0; | nights(24) | nights(24) | count(6) = 24", undos(24), "count(2) = 24",
            "new | tell m0,1;p9,0,0;p9,0,0;p9,0,0;", each("cushions(0, #)", 1, 20), each("cushions(1, #)", 1, 10),
            "count(6) = 24 | 10 times undo() | count(6) = 14 | chair(1, 1) = 0 | chair(0, 1) = 20",
            each("cushions(2, #)", 1, 10), "count(6) = 24", undos(24),
            "chair(0, 1) = 6 | chair(1, 1) = 0 | chair(2, 1) = 0");
        e.edge("9", "each can be undone, the latest first",
            "tell m0,1;p9,0,0;p9,0,0;", each("cushions(0, #)", 1, 20), each("cushions(1, #)", 1, 20), "undo() = 23",
            "chair(1, 1) = 19 | 18 times undo() | chair(1, 1) = 1 | undo() = 4 | chair(1, 1) = 0 | chair(0, 1) = 20",
            "undo() = 3 | chair(0, 1) = 19 | undo() = 2 | undo() = 1 | undo() = 0 | chair(0, 1) = 16 | undo() = STATE",
            "chair(0, 1) = 16 | cushions(0, 1) = 16 | undo() = 0 | chair(0, 1) = 16");
    }

    private static void cushions(Edges e) {
        e.edge("11", "CUSHIONS (0 to 20): how many there were.",
            THREE + " | cushions(0, 20) = 0 | chair(0, 1) = 20 | cushions(0, 0) = 20 | chair(0, 1) = 0 | chair(1, 1) = 0",
            "cushions(0, 0) = 0 | count(6) = 3");
        e.edge("11", "how many there were. BAD.",
            "cushions(0, 0) = BAD | " + THREE + " | cushions(0, 21) = BAD | cushions(0, -1) = BAD | cushions(3, 1) = BAD",
            "cushions(-1, 1) = BAD | cushions(0, MAX) = BAD | cushions(MIN, 0) = BAD | count(6) = 0 | chair(0, 1) = 0");
    }

    private static void mends(Edges e) {
        e.edge("12", "LEG is GLUE more (60 at most)",
            "tell m0,9;p50,0,0;p51,0,0;p52,0,0;p59,0,0;p0,0,0; | mend(0) = 59 | mend(1) = 60 | mend(2) = 60 | mend(3) = 60",
            "mend(4) = 9 | mend(0) = 60 | chair(4, 0) = 9 | count(4) = 249",
            "new | tell m0,1;t59,0,0; | mend(0) = 60 | mend(0) = FULL");
        e.edge("12", "Mended: LEG then.",
            "tell m0,4;p0,0,0;r57,0,0;t60,0,0; | cushions(0, 9) | mend(0) = 4 | mend(0) = 8 | chair(0, 0) = 8 | mend(1) = 60",
            "chair(2, 0) = 60 | chair(0, 1) = 9 | count(6) = 4");
        e.edge("12", "BAD; FULL: it is 60.",
            "mend(0) = BAD | tell m0,9;p60,0,0; | mend(0) = FULL | mend(1) = BAD | mend(-1) = BAD | mend(MIN) = BAD",
            "mend(MAX) = BAD | count(6) = 0 | chair(0, 0) = 60");
    }

    private static void watches(Edges e) {
        e.edge("13", "WATCHED (1), or no more (0): which are (bits).",
            "tell m5,1;p1,0,0;p1,0,0;p1,0,0;p1,0,0;p1,0,0;p1,0,0; | watch(5, 1) = 32 | watch(0, 1) = 33 | watch(3, 1) = 41",
            "watch(0, 0) = 40 | watch(5, 0) = 8 | watch(3, 0) = 0 | count(6) = 6");
        e.edge("13 24 29 30 31 33 34 43", "Sets are bits.",
            "tell m2,1;p9,1,3;p9,1,3; | watch(1, 1) = 2 | watch(0, 1) = 3 | count(3) = 3 | sawnBy(1) = 1 | sawnBy(0) = 2",
            "round() = 3 | coalition(1) = 3 | row(0, 0, 1) | set(0, 0, 9) | guarded(1, 0, 0, 1) = 64 | who(0, 2, 1, 0, 0, 1) = 15",
            "watch(1, 0) = 1 | guarded(1, 0, 0, 1) = 2 | guard(1, 0, 1, 1) = 2 | guard(0, 0, 1, 1) = 0");
        e.edge("13", "STATE: it is so",
            "tell m1,1;p1,0,0;p1,0,0; | watch(0, 0) = STATE | watch(1, 1) = 2 | watch(1, 1) = STATE | watch(0, 0) = STATE",
            "count(6) = 1 | count(3) = 2");
        e.edge("13", "FULL: WATCHMEN watch others.",
            "tell m2,1;p1,0,0;p1,0,0;p1,0,0; | watch(0, 1) = 1 | watch(1, 1) = 3 | watch(2, 1) = FULL | count(3) = 3",
            "count(6) = 2 | watch(0, 0) = 2 | watch(2, 1) = 6 | watch(0, 1) = FULL",
            "new | tell m0,1;p1,0,0; | watch(0, 1) = FULL | watch(0, 0) = STATE");
        e.edge("13", "BAD; STATE: it is so; FULL",
            "watch(0, 1) = BAD | tell m1,1;p1,0,0;p1,0,0; | watch(0, 2) = BAD | watch(0, -1) = BAD | watch(2, 1) = BAD",
            "watch(-1, 0) = BAD | watch(0, MIN) = BAD | watch(MAX, 1) = BAD | watch(0, 1) = 1",
            // It is so, and all watchmen watch: the earlier word is answered.
            "watch(0, 1) = STATE | watch(1, 1) = FULL | watch(2, 1) = BAD | watch(1, 2) = BAD");
        e.edge("13", "(WATCHMEN at most)",
            "tell m5,1;p1,0,0;p1,0,0;p1,0,0;p1,0,0;p1,0,0;p1,0,0; | watch(0, 1) | watch(1, 1) | watch(2, 1) | watch(3, 1)",
            "watch(4, 1) = 31 | watch(5, 1) = FULL | watch(0, 0) = 30 | watch(5, 1) = 62 | watch(0, 1) = FULL");
    }

    private static void changes(Edges e) {
        e.edge("14", "SAW, GRUDGE, how often CAUGHT of both CHAIRS are exchanged",
            "tell m2,5;p9,2,3;c8,3,3;o9,1,1; | cushions(1, 2) | watch(0, 1) | nights(1) | change(2, 1)",
            // Sitter 2 was caught, and sits on chair 1 now with what is his.
            "chair(1, 5) = 0 | chair(1, 6) = 1 | chair(1, 8) = 1 | chair(2, 5) = 3 | chair(2, 6) = 3 | chair(2, 8) = 0",
            "kind(1) = 3 | kind(2) = 4 | chair(1, 0) = 6 | chair(2, 0) = 8 | chair(1, 1) = 2 | chair(2, 1) = 0",
            "chair(0, 4) = 1 | chair(1, 4) = 0 | chair(2, 4) = 0 | chair(0, 5) = 2 | count(5) = 1");
        e.edge("14", "Two change places: whose CHAIR the sitter of the first one would saw then (NONE).",
            THREE + " | change(0, 1) = 1 | chair(0, 7) = 1 | undo() = 0 | change(1, 0) = 2 | undo() = 0 | change(2, 1) = 0",
            "new | tell m0,1;p9,5,3;p8,0,3; | change(0, 1) = NONE | change(0, 1) = 1",
            "new | tell m0,1;p9,5,3;p8,5,0; | change(0, 1) = NONE | new | tell m0,1;p9,5,3;p8,5,1; | change(0, 1) = NONE");
        e.edge("14", "BAD: alike, too.",
            "change(0, 1) = BAD | change(0, 0) = BAD | " + THREE + " | change(0, 0) = BAD | change(2, 2) = BAD",
            "change(0, 3) = BAD | change(3, 0) = BAD | change(-1, 0) = BAD | change(0, -1) = BAD | change(MIN, MAX) = BAD",
            "count(6) = 0 | change(0, 2) = NONE | count(6) = 1");
    }

    private static void saws(Edges e) {
        e.edge("15", "SAW (0 to 9): what it was.",
            THREE + " | saw(0, 9) = 2 | chair(0, 5) = 9 | saw(0, 0) = 9 | chair(0, 5) = 0 | chair(0, 7) = NONE | saw(0, 0) = 0",
            "count(6) = 3 | chair(1, 5) = 3 | saw(2, 4) = 1 | chair(2, 5) = 4");
        e.edge("15", "what it was. BAD.",
            "saw(0, 0) = BAD | " + THREE + " | saw(0, 10) = BAD | saw(0, -1) = BAD | saw(3, 1) = BAD | saw(-1, 1) = BAD",
            "saw(0, MAX) = BAD | saw(MIN, 0) = BAD | count(6) = 0 | chair(0, 5) = 2");
        e.edge("16", "4 whether WATCHED (1, 0), 5 SAW, 6 GRUDGE of the sitter, 7 whose CHAIR he would saw now (NONE), 8 how often",
            THREE + " | watch(0, 1) | nights(2) | chair(0, 4) = 1 | chair(1, 4) = 0 | chair(2, 4) = 0 | chair(2, 5) = 0",
            "chair(2, 6) = 1 | chair(2, 7) = NONE | chair(2, 8) = 1 | chair(1, 7) = 2 | chair(0, 7) = 1");
        e.edge("16", "how often he was CAUGHT. BAD.",
            "chair(0, 0) = BAD | " + THREE + " | chair(0, 9) = BAD | chair(0, -1) = BAD | chair(3, 0) = BAD | chair(-1, 0) = BAD",
            "chair(0, MIN) = BAD | chair(0, MAX) = BAD | chair(MIN, 8) = BAD | chair(MAX, 8) = BAD | chair(2, 8) = 0");
    }

    private static void refused(Edges e) {
        e.edge("9 10 11 12 13 14 15", "What is refused, or found, changes nothing but status().",
            "tell m1,5;p9,2,3;c8,3,3;o60,1,1; | watch(0, 1) | nights(1) | row(0, 0, -1) = SIZE | ask(1, 1) | look",
            "nights(0) = BAD | nights(25) = BAD | cushions(0, 21) = BAD | cushions(3, 0) = BAD | mend(3) = BAD | mend(2) = 60 | undo() = 2",
            "watch(0, 1) = STATE | watch(1, 0) = STATE | watch(1, 1) = FULL | watch(1, 2) = BAD | change(1, 1) = BAD",
            "change(1, 3) = BAD | saw(0, 10) = BAD | saw(3, 0) = BAD | restore(0) = STATE | image(2) = BAD | ask(3, 0) = BAD",
            "ask(0, 2) = BAD | as(0, 6) = BAD | same");
        e.edge("10 12", "Refusals are answers, the first of these that fits, but as told",
            "tell m0,5;p60,0,0; | 41 times nights(24) | nights(15) = 0 | look | nights(1) = FULL | mend(0) = FULL | same",
            "nights(25) = BAD | mend(1) = BAD | same");
    }
}
