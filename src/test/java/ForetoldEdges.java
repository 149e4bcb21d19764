/** Edges of what is foretold of ranks, cushions, watches and orders: promises 18 to 32. */
final class ForetoldEdges {
    private static final String THREE = "tell m1,5;p9,2,3;c8,3,3;o9,1,1;";
    /** 0 is sawn by 1 in each night and is behind 1, who is at 31, behind 30 nights first. */
    private static final String SLOW = "tell m1,1;p60,0,0;p31,1,3;";

    private ForetoldEdges() {
    }

    static void all(Edges e) {
        aheads(e);
        ministers(e);
        floors(e);
        risings(e);
        calms(e);
        cushions(e);
        guards(e);
        bestWatches(e);
        sawdusts(e);
        piles(e);
        climbs(e);
        coalitions(e);
        sawn(e);
        enemies(e);
        unchanged(e);
    }

    private static void aheads(Edges e) {
        e.edge("18", "AHEAD by n NIGHTS (0 to 60): HIGH of a CHAIR; its RANK; LEG.",
            "tell m0,1;p60,0,0;p1,1,2; | cushions(0, 0) | ahead(0, 0, 0) = 60 | ahead(0, 0, 1) = 0 | ahead(0, 0, 2) = 60",
            "ahead(0, 1, 2) = 59 | ahead(0, 59, 0) = 1 | ahead(0, 59, 1) = 0 | ahead(0, 60, 2) = 0 | ahead(0, 60, 1) = 1",
            "ahead(1, 60, 1) = 0 | ahead(0, 61, 0) = BAD | ahead(0, -1, 0) = BAD");
        e.edge("18", "AHEAD: HIGH (what = 0), RANK (1), LEG (2). BAD.",
            "ahead(0, 0, 0) = BAD | " + THREE + " | cushions(1, 4) | ahead(1, 1, 0) = 14 | ahead(1, 1, 1) = 0 | ahead(1, 1, 2) = 6",
            "ahead(0, 0, 3) = BAD | ahead(0, 0, -1) = BAD | ahead(3, 0, 0) = BAD | ahead(-1, 0, 0) = BAD",
            "ahead(0, MIN, 0) = BAD | ahead(0, MAX, 0) = BAD | ahead(MAX, 0, 0) = BAD | ahead(0, 0, MAX) = BAD");
        e.edge("18 10", "AHEAD by n NIGHTS",
            // As 8 nights go that are done, with one who is caught till he has no saw.
            "tell m1,1;p40,5,3;t40,7,2;o40,3,3; | watch(1, 1) | cushions(0, 9) | ahead(0, 8, 0) = 18 | ahead(0, 8, 1) = 2",
            "ahead(0, 8, 2) = 9 | ahead(1, 8, 2) = 40 | nights(8) = 1 | chair(0, 0) = 9 | chair(1, 0) = 40 | chair(0, 8) = 5");
    }

    private static void ministers(Edges e) {
        e.edge("19", "MINISTER behind n NIGHTS (0 to 60).",
            "tell m0,1;p60,0,0;p1,1,2; | minister(0) = 0 | minister(59) = 0 | minister(60) = 1 | minister(0) = 0",
            "minister(59) = 0 | minister(61) = BAD | minister(-1) = BAD | minister(MIN) = BAD | minister(MAX) = BAD");
        e.edge("19", "MINISTER. BAD; STATE: no MINISTRY (ahead of BAD).",
            "minister(0) = STATE | minister(61) = STATE | minister(-1) = STATE | minister(MIN) = STATE");
    }

    private static void floors(Edges e) {
        e.edge("20", "FLOOR: behind how many NIGHTS (0: it is; 60 at most) LEG of a CHAIR is 0 first; NONE.",
            "tell m0,1;p60,0,0;p0,1,2;p1,0,0; | floor(0) = 60 | floor(1) = 0 | floor(2) = NONE");
        e.edge("20", "(0: it is; 60 at most)",
            // 2 saws 1 in the first night, which falls below 2 by it, and 0 by 1 in each night from the second on.
            "tell m0,1;p59,9,3;p15,0,0;p10,1,1; | cushions(0, 20) | floor(0) = 60 | ahead(0, 1, 2) = 59 | ahead(0, 2, 2) = 58",
            "new | tell m0,1;p60,9,3;p15,0,0;p10,1,1; | cushions(0, 20) | floor(0) = NONE | ahead(0, 60, 2) = 1",
            "new | tell m0,1;p9,0,0;p0,9,3; | floor(0) = 1 | new | tell m0,1;p10,0,0;p0,9,3; | floor(0) = 2",
            "new | tell m0,1;t0,0,0; | floor(0) = 0");
        e.edge("20", "FLOOR; NONE. BAD.",
            "floor(0) = BAD | " + THREE + " | floor(3) = BAD | floor(-1) = BAD | floor(MIN) = BAD | floor(MAX) = BAD",
            "floor(2) = 9 | watch(2, 1) | floor(2) = NONE");
    }

    private static void risings(Edges e) {
        e.edge("21", "RISES: behind how many NIGHTS (0 to 60) RANK of a CHAIR is r (0 to 5) or less first; NONE.",
            "tell m0,1;p60,0,0;p1,1,2; | rises(1, 0) = 60 | rises(1, 1) = 0 | rises(0, 0) = 0 | rises(1, 5) = 0",
            // 1 saws 2 in the first night, and 0 by 1 in each night from the second on.
            "new | tell m0,1;p59,0,0;p1,1,1;p2,0,0; | rises(1, 0) = 60 | rises(1, 1) = 1",
            "new | tell m0,1;p60,0,0;p1,1,1;p2,0,0; | rises(1, 0) = NONE | rises(2, 0) = NONE",
            "new | tell " + Edges.SIX_STILL + " | rises(0, 4) = NONE | rises(0, 5) = 0 | rises(5, 0) = 0 | rises(4, 0) = NONE");
        e.edge("21", "RANK of a CHAIR is r (0 to 5) or less first",
            // 0 is first for one night alone: behind the first.
            "tell m0,1;p8,9,1;p9,3,2;p9,2,2; | ranked(0) = 1 | rises(0, 0) = 1 | rises(2, 1) = 0 | rises(1, 0) = 0",
            "rises(0, 6) = BAD | rises(0, -1) = BAD | rises(0, MIN) = BAD | rises(0, MAX) = BAD");
        e.edge("21", "RISES; NONE. BAD.",
            "rises(0, 0) = BAD | " + THREE + " | rises(3, 0) = BAD | rises(-1, 0) = BAD | rises(MAX, 0) = BAD | rises(2, 5) = 0");
    }

    private static void calms(Edges e) {
        e.edge("22", "CALM: behind how many NIGHTS (0 to 60) first no LEG would be less by the next NIGHT; NONE.",
            "tell m0,1;p60,0,0;p0,1,3; | calm() = 60 | new | tell m0,1;p1,0,0;p0,1,3; | calm() = 1",
            "new | tell m0,1;p0,0,0;p0,9,3; | calm() = 0 | new | tell m0,1;p9,0,3;p9,0,3; | calm() = 0",
            "new | tell m0,1;p59,0,0;p1,1,1;p2,0,0; | calm() = 60 | new | tell m0,1;p60,0,0;p1,1,1;p2,0,0; | calm() = NONE");
        e.edge("22", "no LEG would be less by the next NIGHT",
            // Half of 1 takes nothing; who is caught takes nothing, though it is a night with saws.
            "tell m0,1;o9,0,0;p0,1,2; | calm() = 0 | new | tell m1,1;p9,0,0;p0,9,3; | watch(0, 1) | calm() = 0",
            "new | tell m1,1;o9,3,3;p9,3,3; | watch(0, 1) | calm() = 3");
        e.edge("22", "CALM; NONE. STATE: no MINISTRY.", "calm() = STATE | tell x = -1000100 | calm() = STATE");
    }

    private static void cushions(Edges e) {
        e.edge("23", "n NIGHTS (0 to 30): the fewest CUSHIONS (0 to 20) of it, from now on, by which its RANK is r or less",
            "tell m0,1;p29,0,0;p10,0,0; | cushionFor(1, 0, 0) = 20 | cushionFor(1, 1, 0) = 0 | cushionFor(0, 0, 30) = 0",
            "new | tell m0,1;p30,0,0;p10,0,0; | cushionFor(1, 0, 0) = NONE | cushionFor(1, 5, 0) = 0",
            "new | " + SLOW + " | cushionFor(0, 0, 29) = 0 | cushionFor(0, 0, 30) = 1 | cushionFor(1, 0, 30) = 0",
            "cushionFor(1, 0, 29) = 1 | cushionFor(0, 0, 31) = BAD | cushionFor(0, 0, -1) = BAD");
        e.edge("23", "of it, from now on",
            // Those there are do not count: with 5 chair 1 would be minister, and sawn.
            "tell m0,1;p20,0,0;p19,0,0;p0,9,2; | cushions(1, 5) | ahead(1, 1, 1) = 1 | cushionFor(1, 0, 1) = 0 | chair(1, 1) = 5",
            "cushions(1, 20) | cushionFor(1, 0, 0) = 2 | cushionFor(0, 0, 0) = 19",
            "new | tell m0,1;c9,0,0;t9,0,0;r10,0,0; | cushionFor(0, 0, 0) = 3 | cushionFor(2, 0, 0) = 6 | cushionFor(2, 1, 0) = 0");
        e.edge("23", "CUSHION; NONE. BAD.",
            "cushionFor(0, 0, 0) = BAD | " + THREE + " | cushionFor(3, 0, 0) = BAD | cushionFor(-1, 0, 0) = BAD",
            "cushionFor(0, 6, 0) = BAD | cushionFor(0, -1, 0) = BAD | cushionFor(0, MAX, 0) = BAD | cushionFor(0, 0, MIN) = BAD",
            "cushionFor(0, 0, MAX) = BAD | cushionFor(2, 0, 0) = NONE | cushionFor(2, 5, 30) = 0");
    }

    private static void guards(Edges e) {
        e.edge("24", "GUARD for a CHAIR, r, n NIGHTS (0 to 30): the fewest CHAIRS to be WATCHED now",
            SLOW + " | guard(0, 0, 29, 0) = 0 | guard(0, 0, 29, 1) = 0 | guard(0, 0, 30, 0) = 1 | guard(0, 0, 30, 1) = 1",
            "guard(1, 0, 30, 1) = 0 | guard(1, 0, 29, 0) = NONE | guard(1, 1, 0, 0) = 0 | guard(0, 0, 31, 0) = BAD",
            "guard(0, 0, -1, 0) = BAD");
        e.edge("24", "and no others (whatever there is of WATCHMEN)",
            "tell m0,1;o9,3,3;p10,6,3;p2,6,1; | guard(2, 1, 2, 0) = 2 | guard(2, 1, 2, 1) = 5",
            // What is watched now is not, unless it is one of them.
            "new | " + SLOW + " | watch(0, 1) | guard(1, 0, 30, 0) = 0 | guard(0, 0, 30, 0) = 1 | guard(0, 0, 30, 1) = 1");
        e.edge("24", "how many; which (bits), of several the least; NONE.",
            // Either chair 1 alone or chair 2 alone; of two, 2 and 3, or 3 and 4.
            "tell m0,1;o2,6,2;p5,1,2;r5,4,3; | guard(2, 1, 2, 0) = 1 | guard(2, 1, 2, 1) = 2",
            "new | tell m0,1;p19,8,0;c2,3,1;p2,6,1;p14,5,3;p2,7,3; | guard(2, 1, 2, 0) = 2 | guard(2, 1, 2, 1) = 12",
            "guard(2, 0, 2, 0) = NONE | guard(2, 0, 2, 1) = NONE");
        e.edge("24", "GUARD: how many (what = 0), which (1); NONE. BAD.",
            "guard(0, 0, 0, 0) = BAD | " + THREE + " | guard(3, 0, 0, 0) = BAD | guard(-1, 0, 0, 0) = BAD | guard(0, 6, 0, 0) = BAD",
            "guard(0, -1, 0, 0) = BAD | guard(0, 0, 0, 2) = BAD | guard(0, 0, 0, -1) = BAD | guard(MIN, 0, 0, 0) = BAD",
            "guard(0, MAX, 0, 0) = BAD | guard(0, 0, MAX, 0) = BAD | guard(0, 0, 0, MIN) = BAD | guard(2, 5, 30, 1) = 0");
    }

    private static void bestWatches(Edges e) {
        // 0 is sawn by 2, chair 1 by 1 in each night.
        String two = "tell m1,1;p60,1,3;p60,0,0;p0,2,3;";
        e.edge("25", "BEST WATCH for n NIGHTS (1 to 30)",
            two + " | bestWatch(1, 0) = 0 | bestWatch(1, 1) = 119 | bestWatch(30, 0) = 0 | bestWatch(30, 1) = 90",
            "bestWatch(29, 1) = 91 | bestWatch(31, 0) = BAD | bestWatch(0, 0) = BAD | bestWatch(-1, 1) = BAD");
        e.edge("25", "WATCHED alone of all",
            two + " | watch(1, 1) = 2 | bestWatch(10, 0) = 0 | bestWatch(10, 1) = 110 | count(3) = 2",
            // There need be no watchmen.
            "new | tell m0,1;p9,0,0;p9,4,3; | bestWatch(2, 0) = 0 | bestWatch(2, 1) = 18");
        e.edge("25", "lets all LEGS together be most behind them, of several the first; how much.",
            "tell m0,1;p20,3,3;p20,3,3;p20,0,0; | bestWatch(1, 0) = 1 | bestWatch(1, 1) = 57",
            "new | tell m0,1;p0,0,0;p0,0,0; | bestWatch(30, 0) = 0 | bestWatch(30, 1) = 0",
            "new | tell m0,1;p20,3,3;p20,3,3;p20,3,3;p20,3,3;p20,3,3;p20,4,3; | bestWatch(1, 0) = 0 | bestWatch(1, 1) = 105",
            "new | tell m0,1;p20,3,3;p20,3,3;p20,3,3;p20,3,3;p20,4,3;p20,3,3; | bestWatch(1, 0) = 5 | bestWatch(1, 1) = 105");
        e.edge("25", "BEST WATCH: which (what = 0), how much (1). BAD; STATE: no MINISTRY (ahead of BAD).",
            "bestWatch(1, 0) = STATE | bestWatch(0, 0) = STATE | bestWatch(1, 2) = STATE",
            THREE + " | bestWatch(1, 2) = BAD | bestWatch(1, -1) = BAD | bestWatch(MAX, 0) = BAD | bestWatch(1, MIN) = BAD");
    }

    /** What sawdust() and pile() have alike, told of one of them. */
    private static void orders(Edges e, String promise, String call) {
        e.edge(promise, "as many ITEMS as CHAIRS of a ROW from i on",
            of(call, "tell m0,1;p9,0,0;p8,0,0;p7,0,0; | fill 0 bytes 9 0 1 2 9 | ORDER(0, 1) = 0 | ORDER(0, 0) = KIND"),
            of(call, "ORDER(0, 2) = KIND | ORDER(0, 3) = PLACE | ORDER(0, 5) = PLACE | ORDER(0, -1) = PLACE | status() = 2"),
            of(call, "row(1, 1, 40) | set(1, 38, 1) | set(1, 39, 2) | ORDER(1, 37) = 0 | ORDER(1, 38) = PLACE"),
            of(call, "ORDER(1, MIN) = PLACE | ORDER(1, MAX) = PLACE | fill 2 ints 0 1 2 | ORDER(2, 0) = 0 | row(2, 0, 0)"),
            of(call, "ORDER(2, 0) = PLACE | new | tell " + Edges.SIX_STILL + " | row(0, 0, 40) | set(0, 34, 5) | set(0, 35, 4)"),
            of(call, "set(0, 36, 3) | set(0, 37, 2) | set(0, 38, 1) | ORDER(0, 34) = 0 | ORDER(0, 35) = PLACE"));
        e.edge(promise, "(a row of as many ITEMS as CHAIRS: each CHAIR once, the minister first)",
            of(call, "tell m0,1;p7,0,0;p8,0,0;p9,0,0; | fill 0 ints 2 1 0 | ORDER(0, 0) = 0 | fill 0 ints 2 1 2 | ORDER(0, 0) = KIND"),
            of(call, "fill 0 ints 2 2 0 | ORDER(0, 0) = KIND | fill 0 ints 0 0 0 | ORDER(0, 0) = KIND | fill 0 ints 3 1 0"),
            of(call, "ORDER(0, 0) = KIND | fill 0 ints 2 1 -1 | ORDER(0, 0) = KIND | fill 0 ints 2 1 MAX | ORDER(0, 0) = KIND"),
            of(call, "fill 0 ints MIN 1 0 | ORDER(0, 0) = KIND | fill 0 ints 2 1 256 | ORDER(0, 0) = KIND | fill 0 bytes 2 1 256"),
            of(call, "ORDER(0, 0) = 0 | fill 0 ints 2 33 0 | ORDER(0, 0) = KIND | status() = 3"),
            // Alone, there is one order.
            of(call, "new | tell m0,1;p7,0,0; | row(0, 0, 1) | ORDER(0, 0) = 0 | set(0, 0, 1) | ORDER(0, 0) = KIND"));
        e.edge(promise, "BAD: ROW; STATE: no MINISTRY (ahead of BAD); NULL; PLACE; KIND: no order.",
            of(call, "ORDER(0, 0) = STATE | ORDER(8, 0) = STATE | ORDER(-1, 0) = STATE | ORDER(MIN, MIN) = STATE | status() = 0"),
            of(call, "tell m0,1;p7,0,0;p8,0,0; | ORDER(8, 0) = BAD | ORDER(-1, 0) = BAD | ORDER(MAX, 0) = BAD | status() = 0"),
            of(call, "ORDER(0, -1) = NULL | ORDER(7, 40) = NULL | status() = 1 | fill 0 bytes 9 | ORDER(0, 0) = PLACE"),
            of(call, "status() = 2 | ORDER(0, -1) = PLACE | fill 0 bytes 9 9 | ORDER(0, 0) = KIND | status() = 3"),
            of(call, "fill 0 bytes 1 0 | ORDER(0, 0) = 0 | status() = 0"));
    }

    private static String of(String call, String script) {
        return script.replace("ORDER", call);
    }

    private static void sawdusts(Edges e) {
        orders(e, "26", "sawdust");
        e.edge("26", "the least by which LEGS, all together, must be less now so that RANKS are so",
            "tell m0,1;p0,0,0;p60,0,0;p60,0,0;p60,0,0;p60,0,0;p60,0,0; | fill 0 bytes 0 1 2 3 4 5 | sawdust(0, 0) = 300",
            "fill 0 bytes 5 4 3 2 1 0 | sawdust(0, 0) = 10 | fill 0 bytes 1 2 3 4 5 0 | sawdust(0, 0) = 0 | count(4) = 300",
            // A rocker is lower by 2 at once, and keeps the odd one.
            "new | tell m0,1;p10,0,0;r12,0,0; | fill 0 bytes 0 1 | sawdust(0, 0) = 1 | fill 0 bytes 1 0 | sawdust(0, 0) = 0",
            "new | tell m0,1;r12,0,0;p10,0,0; | fill 0 bytes 1 0 | sawdust(0, 0) = 3",
            // A throne has either 6 or nothing.
            "new | tell m0,1;o3,0,0;t9,0,0; | fill 0 bytes 0 1 | sawdust(0, 0) = 9",
            "new | tell m0,1;o6,0,0;t9,0,0; | fill 0 bytes 0 1 | sawdust(0, 0) = 8");
        e.edge("26", "NONE: they can not.",
            "tell m0,1;p0,0,0;p0,0,0; | fill 0 bytes 1 0 | sawdust(0, 0) = NONE | status() = 0 | fill 0 bytes 0 1 | sawdust(0, 0) = 0",
            "new | tell m0,1;p9,0,0;p5,0,0; | cushions(0, 5) | fill 0 bytes 1 0 | sawdust(0, 0) = NONE | cushions(0, 4)",
            "sawdust(0, 0) = 9 | new | tell m0,1;t1,0,0;p0,0,0; | fill 0 bytes 1 0 | sawdust(0, 0) = NONE",
            "new | tell m0,1;p0,0,0;t1,0,0; | fill 0 bytes 0 1 | sawdust(0, 0) = 1");
    }

    private static void piles(Edges e) {
        orders(e, "27", "pile");
        e.edge("27", "the fewest CUSHIONS more, all together (20 at most on each), by which RANKS are so; NONE.",
            "tell m0,1;p10,0,0;p30,0,0; | fill 0 bytes 0 1 | pile(0, 0) = 20 | cushions(1, 1) | pile(0, 0) = NONE | status() = 0",
            "cushions(1, 0) | cushions(0, 5) | pile(0, 0) = 15 | cushions(0, 20) | pile(0, 0) = 0 | cushions(1, 1) | pile(0, 0) = NONE",
            // Of lesser number alike is enough, of greater number it is not.
            "new | tell m0,1;p30,0,0;p10,0,0; | fill 0 bytes 1 0 | pile(0, 0) = NONE | new | tell m0,1;p30,0,0;p11,0,0;",
            "fill 0 bytes 1 0 | pile(0, 0) = 20");
        e.edge("27", "(20 at most on each)",
            "tell m0,1;c10,0,0;p50,0,0; | fill 0 bytes 0 1 | pile(0, 0) = 20 | cushions(1, 1) | pile(0, 0) = NONE",
            "new | tell m0,1;r10,0,0;p30,0,0; | fill 0 bytes 0 1 | pile(0, 0) = 20 | new | tell m0,1;r11,0,0;p30,0,0;",
            "fill 0 bytes 0 1 | pile(0, 0) = 19 | new | tell m0,1;r9,0,0;p29,0,0; | fill 0 bytes 0 1 | pile(0, 0) = NONE",
            "new | tell m0,1;o9,0,0;p9,0,0;t4,0,0; | fill 0 bytes 1 0 2 | pile(0, 0) = 1 | fill 0 bytes 2 1 0 | pile(0, 0) = NONE");
        e.edge("27", "PILE for an order, likewise: the fewest CUSHIONS more",
            "tell m0,1;p0,0,0;p0,0,0;p0,0,0;p0,0,0;p0,0,0;p0,0,0; | fill 0 bytes 5 4 3 2 1 0 | pile(0, 0) = 15",
            "fill 0 bytes 0 1 2 3 4 5 | pile(0, 0) = 0 | fill 0 bytes 1 0 2 3 4 5 | pile(0, 0) = 1 | cushions(0, 3)",
            "pile(0, 0) = 4 | fill 0 bytes 0 1 2 3 4 5 | pile(0, 0) = 0 | chair(1, 1) = 0 | count(6) = 1");
    }

    private static void climbs(Edges e) {
        e.edge("28", "CLIMB for a CHAIR: how much HIGHER it would have to be to be minister (0: it is).",
            "tell m0,1;p0,0,0;p60,0,0;p60,0,0;t55,0,0;o59,0,0; | climb(0) = 60 | climb(1) = 0 | climb(2) = 1 | climb(3) = 1",
            "climb(4) = 2 | new | tell m0,1;p60,0,0;p0,0,0; | climb(0) = 0 | climb(1) = 61",
            "new | tell m0,1;p0,9,3; | climb(0) = 0 | new | tell m0,1;r0,0,0;c60,0,0; | cushions(1, 20) | climb(0) = 100");
        e.edge("28", "CLIMB. BAD.",
            "climb(0) = BAD | " + THREE + " | climb(3) = BAD | climb(-1) = BAD | climb(MIN) = BAD | climb(MAX) = BAD | climb(2) = 1");
    }

    private static void coalitions(Edges e) {
        e.edge("29", "the fewest sitters who together sit more than half as HIGH as all together",
            "tell m0,1;p2,0,0;p3,0,0;p4,0,0;p1,0,0; | cushions(2, 2) | coalition(0) = 2 | coalition(1) = 5",
            "cushions(2, 3) | coalition(0) = 1 | coalition(1) = 4",
            "new | tell m0,1;p9,0,0; | coalition(0) = 1 | coalition(1) = 1 | new | tell m0,1;p0,0,0;t0,0,0;p1,0,0;",
            "coalition(0) = 1 | coalition(1) = 4 | new | tell m0,1;p7,0,0;p7,0,0; | coalition(0) = 2 | coalition(1) = 3");
        e.edge("29", "which (bits), of several the least; NONE: all sit at 0.",
            "tell m0,1;p9,0,0;p9,0,0;p9,0,0;p9,0,0;p9,0,0;p9,0,0; | coalition(0) = 4 | coalition(1) = 15",
            "new | tell m0,1;p5,0,0;p1,0,0;p4,0,0;p4,0,0; | coalition(0) = 2 | coalition(1) = 5",
            "new | tell m0,1;p1,0,0;p5,0,0;p4,0,0;p4,0,0; | coalition(0) = 2 | coalition(1) = 6",
            // 0, 1 and 2 are more than half, too, and their bits are less: but they are three.
            "new | tell m0,1;p3,0,0;p3,0,0;p3,0,0;p6,0,0; | coalition(0) = 2 | coalition(1) = 9",
            "new | tell m0,1;t0,0,0;r1,0,0;o0,0,0; | cushions(0, 20) | cushions(2, 20) | coalition(0) = NONE | coalition(1) = NONE",
            "cushions(1, 1) | coalition(0) = 1 | coalition(1) = 2");
        e.edge("29", "COALITIONS: how many (what = 0), which (1); NONE. BAD; STATE: no MINISTRY (ahead of BAD).",
            "coalition(0) = STATE | coalition(2) = STATE | coalition(-1) = STATE",
            THREE + " | coalition(2) = BAD | coalition(-1) = BAD | coalition(MIN) = BAD | coalition(MAX) = BAD");
    }

    private static void sawn(Edges e) {
        e.edge("30", "BY: sitters (bits) who would saw a CHAIR in this NIGHT, WATCHED or not.",
            "tell m1,1;p9,0,3;p8,1,1;p7,1,2;p6,1,3;p5,0,2;p4,9,0; | sawnBy(0) = 2+4 | sawnBy(4) = 8 | sawnBy(1) = 0",
            "watch(0, 1) | sawnBy(0) = 2+4 | saw(5, 1) | sawnBy(0) = 2+4 | change(0, 4) | sawnBy(0) = 2+4 | saw(4, 1) | sawnBy(5) = 16",
            // An oak by half of 1, that is nothing, is sawn none the less; nobody saws himself.
            "new | tell m0,1;o9,1,2;p8,1,2;p7,1,3; | sawnBy(0) = 2+4 | new | tell m0,1;p9,9,3; | sawnBy(0) = 0",
            "new | tell m0,1;p9,0,0;p0,1,2;p0,1,2;p0,1,2;p0,1,2;p0,1,2; | sawnBy(0) = 62");
        e.edge("30", "BY. BAD.",
            "sawnBy(0) = BAD | " + THREE + " | sawnBy(3) = BAD | sawnBy(-1) = BAD | sawnBy(MIN) = BAD | sawnBy(MAX) = BAD");
        e.edge("31", "ROUND: sitters (bits) whose CHAIRS would be sawn by those whose CHAIRS they would saw.",
            "tell m0,1;p9,1,3;p8,1,1; | round() = 3 | saw(1, 0) | round() = 0",
            "new | tell m0,1;p9,1,3;p8,1,3;p7,1,3; | round() = 0 | new | tell m0,1;p9,1,3;p8,1,1;p7,1,3;p6,1,1; | round() = 1+2+4+8",
            "new | tell m0,1;p9,0,0;p8,1,3;p7,1,1;p6,1,1; | round() = 2+4 | new | tell m0,1;p9,9,3; | round() = 0",
            // The last and the first are next to one another, too.
            "new | tell m1,1;p8,1,1;p0,0,0;p9,1,3; | round() = 1+4 | watch(0, 1) | round() = 1+4");
        e.edge("31", "ROUND. STATE: no MINISTRY.", "round() = STATE | tell x = -1000100 | round() = STATE");
    }

    private static void enemies(Edges e) {
        e.edge("32", "ENEMY for n NIGHTS (1 to 30)",
            "tell m0,1;p60,0,0;p0,1,2;p0,1,2; | enemy(0, 1, 1) = 59 | enemy(0, 29, 1) = 31 | enemy(0, 30, 1) = 30",
            "enemy(0, 31, 1) = BAD | enemy(0, 0, 1) = BAD | enemy(0, -1, 0) = BAD | enemy(0, MAX, 0) = BAD");
        e.edge("32", "lets a CHAIR be HIGHEST behind them, of several the first; how HIGH.",
            "tell m0,1;p60,0,0;p0,1,2;p0,1,2;p0,2,2;p0,2,2; | enemy(0, 1, 0) = 3 | enemy(0, 1, 1) = 56 | enemy(1, 9, 0) = 0",
            "enemy(1, 9, 1) = 0 | new | tell m0,1;p0,9,3;p0,9,3; | enemy(0, 30, 0) = 0 | enemy(0, 30, 1) = 0",
            "new | tell m0,1;t9,0,0;p0,2,2; | enemy(0, 4, 0) = 1 | enemy(0, 4, 1) = 14");
        e.edge("32", "the sitter who, with SAW 0 from now on",
            // What is watched stays so; the chair's own sitter may be the one.
            "tell m1,1;p9,0,0;p9,5,3;p9,4,3; | watch(2, 1) | enemy(0, 1, 0) = 2 | enemy(0, 1, 1) = 9 | enemy(2, 1, 0) = 0",
            "new | tell m0,1;p9,4,3;p8,9,1; | enemy(0, 1, 0) = 1 | enemy(0, 2, 1) = 9 | enemy(1, 1, 0) = 0 | enemy(1, 1, 1) = 8");
        e.edge("32", "ENEMY: who (what = 0), how HIGH (1). BAD.",
            "enemy(0, 1, 0) = BAD | " + THREE + " | enemy(3, 1, 0) = BAD | enemy(-1, 1, 0) = BAD | enemy(0, 1, 2) = BAD",
            "enemy(0, 1, -1) = BAD | enemy(MIN, 1, 0) = BAD | enemy(0, MIN, 0) = BAD | enemy(0, 1, MIN) = BAD");
    }

    private static void unchanged(Edges e) {
        e.edge("18 19 20 21 22 23 24 25 28 29 30 31 32 35 36", "FORETOLD (nothing changes).",
            "tell m2,3;p30,4,3;t12,5,2;o25,3,1;r14,9,1;c11,1,2;p40,2,3; | watch(0, 1) | watch(4, 1) | cushions(3, 5) | nights(2)",
            "row(0, 0, -1) = SIZE | ask(3, 0) | look",
            "ahead(0, 60, 0) | ahead(5, 30, 1) | minister(60) | floor(2) | rises(4, 0) | calm() | cushionFor(3, 0, 30)",
            "guard(3, 0, 30, 0) | guard(3, 0, 30, 1) | bestWatch(30, 0) | climb(4) | coalition(1) | sawnBy(5) | round()",
            "enemy(5, 30, 0) | doze(1, 2, 30, 3, 0) | drawn(60, 77, 0) | drawn(60, 77, 1) | same");
        e.edge("26 27 33 34", "FORETOLD (nothing changes)",
            "tell m2,3;p30,4,3;t12,5,2;o25,3,1;r14,9,1;c11,1,2;p40,2,3; | watch(0, 1) | watch(4, 1) | cushions(3, 5) | nights(2)",
            "row(0, 0, 12) | fill 1 bytes 5 4 3 2 1 0 | ask(3, 0) | look | sawdust(1, 0) | pile(1, 0) | who(0, 0, 1, 0, 0, 12)",
            "who(0, 1, 0, 0, 0, 12) | who(5, 2, 1, 0, 0, 3) | guarded(2, 0, 0, 12) | same",
            "sawdust(0, 0) = KIND | pile(2, 0) = NULL | who(0, 0, 0, 0, 1, 12) = PLACE | guarded(0, 0, 9, 12) = PLACE | same but status");
    }
}
