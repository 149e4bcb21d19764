/** Edges of what fits a told row, of dozing watchmen and of drawn years: promises 33 to 36. */
final class LikelyEdges {
    /** 0 is sawn by 1 in each of the 12 nights that it has a leg. */
    private static final String TWELVE = "tell m1,1;p12,0,0;p0,1,3; | fill 0 bytes 11 10 9 8 7 6 5 4 3 2 1 0";

    private LikelyEdges() {
    }

    static void all(Edges e) {
        told(e);
        whos(e);
        guardeds(e);
        found(e);
        dozes(e);
        dozesRefused(e);
        draws(e);
    }

    private static void told(Edges e) {
        e.edge("33 34", "A row tells HIGH of a CHAIR behind each of n NIGHTS (1 to 12) from now on.",
            TWELVE + " | who(0, 0, 0, 0, 0, 12) = 2+8 | guarded(0, 0, 0, 12) = 64+2 | who(0, 0, 0, 0, 0, 1) = 2+8",
            "guarded(0, 0, 0, 1) = 64+2 | who(0, 0, 0, 0, 0, 13) = BAD | who(0, 0, 0, 0, 0, 0) = BAD | who(0, 0, 0, 0, 0, -1) = BAD",
            "guarded(0, 0, 0, 13) = BAD | guarded(0, 0, 0, 0) = BAD | guarded(0, 0, 0, MIN) = BAD | guarded(0, 0, 0, MAX) = BAD");
        e.edge("33 34", "behind each of n NIGHTS",
            // The first is behind one night, not now; each must be as told, the last one, too.
            TWELVE + " | set(0, 0, 12) | who(1, 1, 0, 0, 0, 1) = 1 | guarded(0, 0, 0, 1) = 1 | set(0, 0, 11) | set(0, 11, 1)",
            "who(1, 1, 0, 0, 0, 12) = 0 | guarded(0, 0, 0, 12) = 0 | who(1, 1, 0, 0, 0, 11) = 2 | guarded(0, 0, 0, 11) = 64+2",
            "set(0, 11, 0) | set(0, 5, 5) | who(1, 1, 0, 0, 0, 12) = 0 | guarded(0, 0, 0, 12) = 0");
        e.edge("33 34", "n ITEMS of a ROW from i on",
            "tell m0,1;p9,0,0; | row(0, 0, 40) | set(0, 39, 9) | set(0, 38, 9) | who(0, 2, 0, 0, 39, 1) = 15 | who(0, 2, 0, 0, 38, 2) = 15",
            "who(0, 2, 0, 0, 37, 2) = 0 | guarded(0, 0, 39, 1) = 64+1 | guarded(0, 0, 38, 2) = 64+1 | guarded(0, 0, 37, 3) = 0",
            "who(0, 0, 0, 0, 28, 12) = 0 | who(0, 0, 0, 0, 29, 12) = PLACE | guarded(0, 0, 28, 12) = 0 | guarded(0, 0, 29, 12) = PLACE");
    }

    private static void whos(Edges e) {
        e.edge("33", "KINDS (bits 1 to 5)",
            "tell m0,1;p10,0,0; | cushions(0, 3) | fill 0 bytes 13 12 16 10 15 11 | who(0, 0, 0, 0, 0, 1) = 2 | who(0, 0, 0, 0, 1, 1) = 4",
            "who(0, 0, 0, 0, 2, 1) = 8 | who(0, 0, 0, 0, 3, 1) = 16 | who(0, 0, 0, 0, 4, 1) = 32 | who(0, 0, 0, 0, 5, 1) = 0",
            "new | " + TWELVE + " | who(1, 0, 0, 0, 0, 12) = 62");
        e.edge("33", "SAWS (0 to 9, bits)",
            "tell m1,1;p20,0,0;p0,5,3; | fill 0 bytes 20 19 12 11 10 | who(1, 1, 0, 0, 0, 1) = 1 | who(1, 1, 0, 0, 1, 1) = 2",
            "who(1, 1, 0, 0, 2, 1) = 256 | who(1, 1, 0, 0, 3, 1) = 512 | who(1, 1, 0, 0, 4, 1) = 0",
            "who(0, 1, 1, 0, 4, 1) = 0 | row(1, 2, 3) | who(0, 1, 1, 1, 0, 3) = 1023 | watch(0, 1) | who(1, 1, 0, 0, 0, 1) = 1023");
        e.edge("33", "GRUDGES (0 to 3, bits)",
            "tell m0,1;p20,0,0;p15,0,0;p10,5,0; | fill 0 bytes 20 15 10 9 | who(2, 2, 0, 0, 0, 1) = 1+2 | who(2, 2, 0, 0, 1, 1) = 4+8",
            "who(2, 2, 1, 0, 2, 1) = 2 | who(2, 2, 1, 0, 1, 1) = 1+4+8 | who(2, 2, 2, 0, 2, 1) = 15 | who(2, 2, 2, 0, 3, 1) = 0",
            "who(1, 2, 2, 0, 2, 1) = 15");
        e.edge("33", "of one (it, or another one) by which it is so",
            // Kinds of 1, who grudges upwards: an oak of 10 is below 0, a throne of 10 is above.
            "tell m0,1;p12,0,0;p10,3,1; | fill 0 bytes 9 12 | who(1, 0, 0, 0, 0, 1) = 2+4+8+16 | who(1, 0, 0, 0, 1, 1) = 32",
            "who(0, 0, 0, 0, 0, 1) = 2+8 | who(0, 0, 1, 0, 0, 1) = 0");
    }

    private static void guardeds(Edges e) {
        e.edge("34", "CHAIRS (bits) that are not WATCHED, one of which, WATCHED from now on, makes it so",
            "tell m1,1;p9,0,0;p0,1,3; | fill 0 bytes 9 9 9 8 7 6 | guarded(0, 0, 0, 3) = 1 | guarded(0, 0, 3, 3) = 64+2",
            "guarded(0, 0, 2, 2) = 0 | guarded(0, 0, 0, 1) = 1",
            "new | tell m2,1;p9,0,0;p9,0,0;p9,0,0; | watch(1, 1) | fill 0 bytes 9 | guarded(0, 0, 0, 1) = 64+1+4 | watch(0, 1)",
            // All watchmen watch: one chair more is tried none the less.
            "guarded(0, 0, 0, 1) = 64+4 | count(3) = 3");
        e.edge("34", "64 more, if it is so as it is",
            "tell " + Edges.SIX_STILL + " | fill 0 bytes 5 5 | guarded(5, 0, 0, 2) = 64+63 | guarded(4, 0, 0, 2) = 0",
            "new | tell m1,1;p9,0,0;p0,1,3; | watch(0, 1) | fill 0 ints 9 9 | guarded(0, 0, 0, 2) = 64+2",
            "set(0, 1, 8) | guarded(0, 0, 0, 2) = 0 | set(0, 1, MAX) | guarded(0, 0, 0, 2) = 0 | set(0, 1, -1) | guarded(0, 0, 0, 2) = 0");
    }

    private static void found(Edges e) {
        e.edge("33", "BAD: CHAIR, which, OTHER, ROW, n; NULL; PLACE.",
            "who(0, 0, 0, 0, 0, 1) = BAD | tell m0,1;p9,0,0;p8,0,0; | who(2, 0, 0, 0, -1, 1) = BAD | who(-1, 0, 0, 0, -1, 1) = BAD",
            "who(0, 3, 0, 0, -1, 1) = BAD | who(0, -1, 0, 0, -1, 1) = BAD | who(0, 0, 2, 0, -1, 1) = BAD",
            "who(0, 0, -1, 0, -1, 1) = BAD | who(0, 0, 0, 8, -1, 1) = BAD | who(0, 0, 0, -1, -1, 1) = BAD",
            "who(0, 0, 0, 0, -1, 0) = BAD | who(0, 0, 0, 0, -1, 13) = BAD | status() = 0 | who(0, 0, 0, 0, -1, 1) = NULL",
            "status() = 1 | fill 0 bytes 9 9 | who(0, 0, 0, 0, -1, 1) = PLACE | status() = 2 | who(0, 0, 0, 0, 2, 1) = PLACE",
            "who(0, 0, 0, 0, 1, 2) = PLACE | who(0, 0, 0, 0, MIN, 12) = PLACE | who(0, 0, 0, 0, MAX, 12) = PLACE",
            "who(1, 2, 1, 0, 0, 2) = 0 | status() = 0");
        e.edge("34", "BAD: CHAIR, ROW, n; NULL; PLACE.",
            "guarded(0, 0, 0, 1) = BAD | tell m0,1;p9,0,0;p8,0,0; | guarded(2, 0, -1, 1) = BAD | guarded(-1, 0, -1, 1) = BAD",
            "guarded(0, 8, -1, 1) = BAD | guarded(0, -1, -1, 1) = BAD | guarded(0, 0, -1, 0) = BAD | guarded(0, 0, -1, 13) = BAD",
            "status() = 0 | guarded(0, 0, -1, 1) = NULL | status() = 1 | fill 0 bytes 9 9 | guarded(0, 0, -1, 1) = PLACE",
            "status() = 2 | guarded(0, 0, 2, 1) = PLACE | guarded(0, 0, 1, 2) = PLACE | guarded(0, 0, MIN, 12) = PLACE",
            "guarded(0, 0, MAX, 12) = PLACE | guarded(0, 0, 0, 2) = 64+1+2 | status() = 0");
    }

    private static void dozes(Edges e) {
        // 0 is minister behind 30 nights, if its watchman is awake, and behind 29 in any case.
        String slow = "tell m1,1;p60,0,0;p31,1,3; | watch(0, 1)";
        e.edge("35", "of RANK r or less behind n NIGHTS (0 to 30): a fraction.",
            slow + " | doze(0, 0, 30, 3, 0) = 7 | doze(0, 0, 30, 3, 1) = 10 | doze(0, 0, 29, 3, 0) = 1 | doze(0, 0, 29, 3, 1) = 1",
            "doze(1, 0, 30, 3, 0) = 3 | doze(1, 0, 30, 3, 1) = 10 | doze(1, 1, 30, 3, 0) = 1 | doze(1, 0, 0, 3, 0) = 0",
            "doze(0, 0, 0, 3, 0) = 1 | doze(0, 0, 31, 3, 0) = BAD | doze(0, 0, -1, 3, 0) = BAD");
        e.edge("35", "DOZE by p of 10 (0 to 10)",
            slow + " | doze(0, 0, 30, 0, 0) = 1 | doze(0, 0, 30, 0, 1) = 1 | doze(0, 0, 30, 10, 0) = 0 | doze(0, 0, 30, 10, 1) = 1",
            "doze(0, 0, 30, 1, 0) = 9 | doze(0, 0, 30, 9, 0) = 1 | doze(0, 0, 30, 9, 1) = 10 | doze(0, 0, 30, 11, 0) = BAD",
            "doze(0, 0, 30, -1, 0) = BAD");
        e.edge("35", "but fractions, told as two numbers in lowest terms (0 is 0 by 1)",
            slow + " | doze(0, 0, 30, 5, 0) = 1 | doze(0, 0, 30, 5, 1) = 2 | doze(0, 0, 30, 4, 0) = 3 | doze(0, 0, 30, 4, 1) = 5",
            "doze(1, 0, 30, 2, 0) = 1 | doze(1, 0, 30, 2, 1) = 5 | doze(1, 0, 29, 2, 0) = 0 | doze(1, 0, 29, 2, 1) = 1",
            "watch(0, 0) | doze(0, 0, 30, 4, 0) = 0 | doze(0, 0, 30, 4, 1) = 1 | doze(1, 0, 30, 4, 0) = 1 | doze(1, 0, 30, 4, 1) = 1");
        e.edge("35", "each CHAIR that is WATCHED is not from now on in p of 10 cases, apart",
            // 1 is of rank 1, if its watchman is awake, or all five are asleep: 7 of 10, and 3 of 10 five times.
            "tell m5,1;p60,1,3;p60,1,3;p60,1,3;p60,1,3;p60,1,3;p60,0,0; | watch(1, 1) | watch(2, 1) | watch(3, 1) | watch(4, 1)",
            "watch(5, 1) = 62 | doze(1, 1, 1, 3, 0) = 70243 | doze(1, 1, 1, 3, 1) = 100000 | doze(1, 1, 1, 5, 0) = 17",
            "doze(1, 1, 1, 5, 1) = 32 | doze(1, 0, 1, 5, 0) = 0 | doze(1, 5, 1, 5, 1) = 1 | doze(0, 0, 9, 7, 0) = 1",
            // Asleep from now on, not anew in each night: 7 of 10, that 0 loses nothing, not 91 of 100, that it loses 1.
            "new | tell m1,1;p9,0,0;p8,1,2; | watch(0, 1) | doze(0, 0, 2, 3, 0) = 7 | doze(0, 0, 2, 3, 1) = 10");
    }

    private static void dozesRefused(Edges e) {
        e.edge("35", "DOZE: above (what = 0), below (1). BAD.",
            "doze(0, 0, 0, 0, 0) = BAD | doze(0, 0, 0, 0, 1) = BAD | tell m1,1;p9,0,0;p8,1,2; | doze(2, 0, 0, 0, 0) = BAD",
            "doze(-1, 0, 0, 0, 0) = BAD | doze(0, 6, 0, 0, 0) = BAD | doze(0, -1, 0, 0, 0) = BAD | doze(0, 5, 0, 0, 0) = 1",
            "doze(0, 0, 0, 0, 2) = BAD | doze(0, 0, 0, 0, -1) = BAD | doze(MIN, 0, 0, 0, 0) = BAD | doze(0, MAX, 0, 0, 0) = BAD",
            "doze(0, 0, MAX, 0, 0) = BAD | doze(0, 0, 0, MIN, 0) = BAD | doze(0, 0, 0, 0, MAX) = BAD");
    }

    private static void draws(Edges e) {
        e.edge("36", "YEARS of n NIGHTS (0 to 60) by a SEED (X at first)",
            "tell m0,9;p30,9,3;t30,9,3;o30,9,2;r30,9,1;c30,9,2;p30,9,3; | drawn(0, 1, 0) = 1 | drawn(0, 1, 1) = 180",
            "drawn(1, 1, 0) = 1 | drawn(1, 1, 1) = 163 | drawn(2, 1, 1) = 150 | drawn(59, 1, 1) = 56 | drawn(60, 1, 1) = 55",
            "drawn(60, 1, 0) = 2 | drawn(61, 1, 0) = BAD | drawn(-1, 1, 0) = BAD | count(4) = 180");
        e.edge("36", "YEARS by a SEED (1 to 999999): who (what = 0), LEGS (1). BAD",
            "tell m0,9;p30,9,3;t30,9,3;o30,9,2;r30,9,1;c30,9,2;p30,9,3; | drawn(60, 999999, 0) = 3 | drawn(60, 999999, 1) = 13",
            "drawn(60, 999998, 0) = 4 | drawn(60, 999998, 1) = 51 | drawn(1, 1000000, 0) = BAD | drawn(1, 0, 0) = BAD",
            "drawn(1, -1, 0) = BAD | drawn(1, MIN, 0) = BAD | drawn(1, MAX, 0) = BAD | drawn(1, 1, 2) = BAD | drawn(1, 1, -1) = BAD",
            "drawn(MIN, 1, 0) = BAD | drawn(MAX, 1, 0) = BAD");
        e.edge("36", "BAD; STATE: no MINISTRY (ahead of BAD)",
            "drawn(0, 1, 0) = STATE | drawn(61, 1, 0) = STATE | drawn(0, 0, 0) = STATE | drawn(0, 1, 2) = STATE");
        e.edge("36", "the CHAIR that is the rest of X by how many there are is WATCHED alone in it",
            // X is 16807: chair 1, so that 0 is sawn, whatever is watched now; X is 33614: chair 0.
            "tell m1,1;p9,0,0;p0,1,3; | watch(0, 1) | drawn(1, 1, 1) = 8 | drawn(1, 2, 1) = 9 | count(3) = 1",
            "new | tell m0,1;p9,9,3; | drawn(60, 3, 0) = 0");
        e.edge("36", "ahead of each X becomes the rest of (X times 16807) by 2147483647",
            // X is 16807, 282475249, 1622650073: chair 1, so that 0 is sawn by 5 and sitter 0 caught; then 984943658: chair 0.
            "tell m0,9;p20,3,3;p30,5,3; | drawn(1, 1, 1) = 45 | drawn(2, 1, 1) = 40 | drawn(3, 1, 1) = 35 | drawn(4, 1, 1) = 35",
            "new | tell m0,9;p20,4,3;p30,5,3; | drawn(3, 1, 1) = 35 | drawn(4, 1, 1) = 34");
        e.edge("36", "if X by 5 leaves 0, it is mended ahead",
            // X is 84035: chair 2 is mended to 9, so that 1 grudges it, and is caught; 0 is sawn by 1 of chair 2.
            "tell m0,9;p9,0,0;p8,3,1;p0,1,3; | drawn(1, 5, 1) = 25 | drawn(1, 5, 0) = 2 | drawn(1, 1, 1) = 13 | drawn(1, 1, 0) = 1",
            // X is 84035, then 1412376245, which leaves 0 by 5, too.
            "new | tell m0,9;p55,0,0; | drawn(1, 5, 1) = 60 | drawn(1, 1, 1) = 55 | drawn(60, 5, 1) = 60",
            "new | tell m0,2;p0,0,0; | drawn(1, 5, 1) = 2 | drawn(2, 5, 1) = 4 | drawn(0, 5, 1) = 0");
    }
}
