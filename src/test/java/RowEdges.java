/** Edges of rows: promises 1 to 5, and what status() says of them. */
final class RowEdges {
    private RowEdges() {
    }

    static void all(Edges e) {
        atFirst(e);
        rows(e);
        sets(e);
        copies(e);
        copiesFound(e);
        drops(e);
    }

    private static void atFirst(Edges e) {
        e.edge("1", "No MINISTRY.",
            "count(1) = 0 | calm() = STATE | round() = STATE | minister(0) = STATE | image(0) = STATE",
            "chair(0, 0) = BAD | ranked(0) = BAD | kind(0) = BAD");
        e.edge("1", "(none at first)", "count(1) = 0 | count(2) = 0 | count(4) = 0 | count(6) = 0 | nights(1) = STATE");
        e.edge("1 5", "ROWS 0 .. 7 are missing (at first)",
            "count(0) = 0 | drop(0) = NULL | drop(1) = NULL | drop(2) = NULL | drop(3) = NULL",
            "drop(4) = NULL | drop(5) = NULL | drop(6) = NULL | drop(7) = NULL");
        // 8 calls of tell, then 504 more: the last one of all is still as promised.
        e.edge("1 44", "An object is used for at most 512 calls after it has been made",
            "tell m0,1;p0 = -1000107 | 503 times status() = 0 | fault() = 1");
        e.edge("1 2", "Numbers go from 0 on.",
            "row(0, 0, 1) = 1 | set(0, 0, 3) = 3 | set(0, 1, 3) = PLACE | row(7, 0, 1) = 1 | row(8, 0, 1) = BAD");
    }

    private static void rows(Edges e) {
        e.edge("2", "A ROW of a LANE with n ITEMS, in place of what is there: n.",
            "row(0, 0, 3) = 3 | row(0, 2, 5) = 5 | set(0, 4, 70000) = 70000 | set(0, 5, 0) = PLACE | count(0) = 1",
            "row(0, 1, 2) = 2 | set(0, 1, 70000) = 4464 | set(0, 2, 0) = PLACE | count(0) = 1");
        e.edge("2", "0 to 40 ITEMS",
            "row(0, 0, 0) = 0 | count(0) = 1 | set(0, 0, 0) = PLACE | drop(0) = 0",
            "row(7, 2, 40) = 40 | set(7, 39, 9) = 9 | set(7, 40, 9) = PLACE | drop(7) = 40");
        e.edge("2", "ITEMS, 0 at first",
            "tell " + Edges.SIX_STILL + " | row(0, 0, 40) = 40 | item(0, 0) = 0 | item(0, 39) = 0",
            "fill 1 ints 5 4 | row(1, 2, 2) = 2 | item(1, 0) = 0 | item(1, 1) = 0",
            // Items beyond the end of a shorter row do not come back.
            "fill 2 bytes 5 5 5 | row(2, 0, 1) = 1 | row(2, 0, 3) = 3 | item(2, 1) = 0 | item(2, 2) = 0",
            "fill 3 shorts 1 2 | drop(3) = 2 | row(3, 1, 2) = 2 | item(3, 0) = 0 | item(3, 1) = 0");
        e.edge("2", "LANE (0 bytes, 1 shorts, 2 ints)",
            "row(0, 0, 1) = 1 | set(0, 0, 300) = 44 | row(0, 1, 1) = 1 | set(0, 0, 300) = 300",
            "set(0, 0, 65540) = 4 | row(0, 2, 1) = 1 | set(0, 0, 65540) = 65540");
        e.edge("2", "n above 40",
            "row(0, 0, 41) = BAD | row(0, 0, MAX) = BAD | drop(0) = NULL",
            "tell " + Edges.SIX_STILL + " | fill 0 bytes 5 4 | row(0, 2, 41) = BAD",
            "item(0, 0) = 5 | item(0, 1) = 4 | set(0, 0, 256) = 0 | drop(0) = 2");
        e.edge("2", "4 SIZE (fewer than none)",
            "row(0, 0, -1) = SIZE | status() = 4 | drop(0) = NULL | row(0, 0, MIN) = SIZE | count(0) = 0",
            "tell " + Edges.SIX_STILL + " | fill 0 bytes 5 4 | row(0, 2, -1) = SIZE",
            "item(0, 0) = 5 | item(0, 1) = 4 | set(0, 0, 256) = 0 | drop(0) = 2");
        e.edge("2", "BAD: ROW, LANE, n above 40; SIZE.",
            "row(8, 0, -1) = BAD | row(-1, 0, -1) = BAD | row(0, 3, -1) = BAD | row(0, -1, -1) = BAD | status() = 0");
    }

    private static void sets(Edges e) {
        e.edge("3", "ITEM i becomes v",
            "tell " + Edges.SIX_STILL + " | row(0, 0, 3) = 3 | set(0, 0, 5) = 5 | set(0, 2, 4) = 4",
            "item(0, 0) = 5 | item(0, 1) = 0 | item(0, 2) = 4 | set(0, 0, 1) = 1 | item(0, 0) = 1",
            "row(1, 0, 40) = 40 | set(1, 39, 3) = 3 | item(1, 39) = 3 | item(1, 38) = 0");
        e.edge("3", "its lowest bits, as many as the LANE has: what it is then",
            "row(0, 0, 1) | set(0, 0, 127) = 127 | set(0, 0, 128) = -128 | set(0, 0, 255) = -1 | set(0, 0, 256) = 0",
            "set(0, 0, -128) = -128 | set(0, 0, -129) = 127 | set(0, 0, MAX) = -1 | set(0, 0, MIN) = 0");
        e.edge("3", "its lowest bits, as many as the LANE has",
            "row(0, 1, 1) | set(0, 0, 32767) = 32767 | set(0, 0, 32768) = -32768 | set(0, 0, 65535) = -1",
            "set(0, 0, 65536) = 0 | set(0, 0, -32768) = -32768 | set(0, 0, -32769) = 32767",
            "set(0, 0, MAX) = -1 | set(0, 0, MIN) = 0");
        e.edge("3", "as many as the LANE has",
            "row(0, 2, 1) | set(0, 0, MAX) = MAX | set(0, 0, MIN) = MIN | set(0, 0, -1) = -1 | set(0, 0, 65536) = 65536");
        e.edge("3", "its lowest bits",
            "tell " + Edges.SIX_STILL,
            "row(0, 0, 1) | set(0, 0, 260) = 4 | item(0, 0) = 4 | row(0, 1, 1) | set(0, 0, 65541) = 5 | item(0, 0) = 5");
        e.edge("3", "BAD: ROW; NULL; PLACE.",
            "set(8, 0, 0) = BAD | set(-1, 0, 0) = BAD | set(MIN, 0, 0) = BAD | set(MAX, 0, 0) = BAD | status() = 0",
            // Each of these is also of a place that there is not: the earlier word is answered.
            "set(8, -1, 0) = BAD | set(7, -1, 0) = NULL | set(7, 40, 0) = NULL | status() = 1");
        e.edge("3 44", "1 NULL (a ROW that is missing)",
            "set(0, 0, 0) = NULL | status() = 1 | row(0, 0, 2) = 2 | drop(0) = 2 | set(0, 0, 0) = NULL");
        e.edge("3 44", "2 PLACE (no such place of a ROW)",
            "row(0, 0, 2) | set(0, 2, 0) = PLACE | status() = 2 | set(0, -1, 0) = PLACE",
            "set(0, MIN, 0) = PLACE | set(0, MAX, 0) = PLACE | row(0, 0, 0) = 0 | set(0, 0, 0) = PLACE");
        e.edge("3", "What is refused, or found, changes nothing but status().",
            "tell " + Edges.SIX_STILL + " | fill 0 bytes 5 4 | set(0, 2, 3) = PLACE | set(0, -1, 3) = PLACE | set(8, 0, 3) = BAD",
            "item(0, 0) = 5 | item(0, 1) = 4 | set(1, 0, 3) = NULL | drop(1) = NULL | drop(0) = 2");
    }

    private static void copies(Edges e) {
        e.edge("4", "n ITEMS of a from i on come to b from j on",
            "tell " + Edges.SIX_STILL + " | fill 0 bytes 1 2 3 4 | fill 1 bytes 5 5 5 5 5 | copy(0, 1, 1, 2, 2) = 2",
            "item(1, 0) = 5 | item(1, 1) = 5 | item(1, 2) = 2 | item(1, 3) = 3 | item(1, 4) = 5",
            "item(0, 0) = 1 | item(0, 1) = 2 | item(0, 2) = 3 | item(0, 3) = 4");
        e.edge("4", "as they were ahead: n",
            "tell " + Edges.SIX_STILL + " | fill 0 bytes 1 2 3 4 5 | copy(0, 0, 0, 1, 4) = 4",
            "item(0, 0) = 1 | item(0, 1) = 1 | item(0, 2) = 2 | item(0, 3) = 3 | item(0, 4) = 4");
        e.edge("4", "as they were ahead",
            "tell " + Edges.SIX_STILL + " | fill 0 shorts 1 2 3 4 5 | copy(0, 1, 0, 0, 4) = 4",
            "item(0, 0) = 2 | item(0, 1) = 3 | item(0, 2) = 4 | item(0, 3) = 5 | item(0, 4) = 5",
            "copy(0, 0, 0, 0, 5) = 5 | item(0, 0) = 2 | item(0, 4) = 5");
        e.edge("4", "or beyond an end",
            "tell " + Edges.SIX_STILL + " | fill 0 ints 1 2 3 | row(1, 2, 40) = 40",
            "copy(0, 0, 1, 37, 3) = 3 | item(1, 37) = 1 | item(1, 39) = 3",
            "copy(0, 0, 1, 38, 3) = PLACE | copy(0, 1, 1, 0, 3) = PLACE | copy(0, 0, 1, 0, 4) = PLACE",
            "copy(0, 3, 1, 0, 1) = PLACE | copy(0, 0, 1, 40, 1) = PLACE | copy(1, 0, 0, 0, 4) = PLACE");
        e.edge("4", "n ITEMS of a",
            "row(0, 0, 0) | row(1, 0, 0) | copy(0, 0, 1, 0, 0) = 0 | copy(0, 0, 0, 0, 0) = 0 | copy(0, 0, 1, 0, 1) = PLACE",
            "row(0, 0, 3) | copy(0, 3, 1, 0, 0) = 0 | copy(0, 4, 1, 0, 0) = PLACE | copy(1, 0, 0, 3, 0) = 0",
            "copy(1, 0, 0, 4, 0) = PLACE");
        e.edge("4", "PLACE (i, j, n below 0",
            "row(0, 0, 4) | row(1, 0, 4) | copy(0, -1, 1, 0, 1) = PLACE | copy(0, 0, 1, -1, 1) = PLACE",
            "copy(0, 0, 1, 0, -1) = PLACE | copy(0, 2, 1, 2, -1) = PLACE | copy(0, -1, 1, 0, 0) = PLACE",
            "copy(0, 0, 1, -1, 0) = PLACE | status() = 2");
        e.edge("4", "PLACE (i, j, n below 0, or beyond an end)",
            "row(0, 0, 4) | row(1, 0, 4) | copy(0, MAX, 1, 0, MAX) = PLACE | copy(0, 0, 1, MAX, MAX) = PLACE",
            "copy(0, MAX, 1, MAX, 1) = PLACE | copy(0, 1, 1, 1, MAX) = PLACE | copy(0, MIN, 1, 0, 1) = PLACE",
            "copy(0, 0, 1, MIN, 1) = PLACE | copy(0, 0, 1, 0, MIN) = PLACE | copy(0, MIN, 1, MIN, MIN) = PLACE",
            "copy(0, MAX, 1, MAX, MIN) = PLACE | copy(0, 4, 1, 4, MIN) = PLACE");
    }

    private static void copiesFound(Edges e) {
        e.edge("4 3 26", "then FINDINGS, of several the first in time",
            "set(0, -1, 0) = NULL | copy(0, -1, 1, 99, -1) = NULL | row(0, 0, 2) | row(1, 2, 2) | copy(0, -1, 1, 99, -1) = STORE",
            "tell m0,1;p7,0,0;p8,0,0;p9,0,0; | sawdust(2, -1) = NULL | fill 2 bytes 9 9 | sawdust(2, 0) = PLACE | pile(2, 0) = PLACE",
            "row(2, 0, 3) | sawdust(2, 0) = KIND | pile(2, 0) = KIND");
        e.edge("4", "BAD: ROWS; NULL; STORE; PLACE",
            "copy(8, 0, 0, 0, 0) = BAD | copy(-1, 0, 0, 0, 0) = BAD | copy(0, 0, 8, 0, 0) = BAD | copy(0, 0, -1, 0, 0) = BAD",
            "copy(MIN, 0, MAX, 0, 0) = BAD | status() = 0 | copy(0, 9, 1, 9, 9) = NULL | status() = 1",
            "row(0, 0, 2) | copy(0, 9, 1, 9, -1) = NULL | copy(1, 9, 0, 9, -1) = NULL",
            "row(1, 1, 2) | copy(0, 9, 1, 9, -1) = STORE | status() = 5 | row(1, 0, 2) | copy(0, 9, 1, 9, -1) = PLACE");
        e.edge("4 44", "5 STORE (ROWS of two LANES)",
            "row(0, 0, 2) | row(1, 1, 2) | row(2, 2, 2) | copy(0, 0, 1, 0, 1) = STORE | status() = 5",
            "copy(1, 0, 0, 0, 1) = STORE | copy(0, 0, 2, 0, 1) = STORE | copy(2, 0, 1, 0, 1) = STORE",
            "copy(0, 0, 1, 0, 0) = STORE | row(1, 0, 2) | copy(0, 0, 1, 0, 1) = 1 | status() = 0");
        e.edge("4", "What is refused, or found, changes nothing",
            "tell " + Edges.SIX_STILL + " | fill 0 bytes 1 2 3 | fill 1 bytes 4 5 | fill 2 ints 4 5 | copy(0, 0, 1, 0, 3) = PLACE",
            "copy(0, 0, 2, 0, 2) = STORE | copy(0, 1, 1, 0, -1) = PLACE | copy(0, 0, 3, 0, 2) = NULL",
            "item(1, 0) = 4 | item(1, 1) = 5 | item(2, 0) = 4 | item(2, 1) = 5 | drop(3) = NULL | item(0, 0) = 1");
    }

    private static void drops(Edges e) {
        e.edge("5", "A ROW is missing from now on: how many ITEMS it had.",
            "row(0, 0, 0) | row(1, 1, 1) | row(7, 2, 40) | count(0) = 3 | drop(0) = 0 | drop(7) = 40 | count(0) = 1",
            "drop(0) = NULL | set(7, 0, 0) = NULL | copy(7, 0, 1, 0, 0) = NULL | drop(1) = 1 | count(0) = 0");
        e.edge("5", "BAD; NULL.",
            "drop(8) = BAD | drop(-1) = BAD | drop(MIN) = BAD | drop(MAX) = BAD | status() = 0 | drop(0) = NULL | status() = 1",
            "row(0, 0, 3) | drop(8) = BAD | status() = 0 | drop(0) = 3 | status() = 0");
        e.edge("5 2", "A ROW is missing from now on",
            "row(3, 2, 5) | drop(3) = 5 | row(3, 0, 2) = 2 | set(3, 1, 256) = 0 | set(3, 2, 0) = PLACE | drop(3) = 2");
    }
}
