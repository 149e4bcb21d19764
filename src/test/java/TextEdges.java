/** Edges of what is told in a text: promises 6, 7 and 8. */
final class TextEdges {
    private static final String LAW = "m0,1;";
    private static final String SIX = "p0,0,0;p0,0,0;p0,0,0;p0,0,0;p0,0,0;p0,0,0;";

    private TextEdges() {
    }

    static void all(Edges e) {
        feeds(e);
        laws(e);
        chairs(e);
        readings(e);
        tokens(e);
        faults(e);
        ends(e);
        latest(e);
    }

    private static String fault(String text, int number, int place) {
        return "new | tell " + text + " = " + (-1000100 - place) + " | fault() = " + number + " | count(1) = 0";
    }

    private static void feeds(Edges e) {
        e.edge("6", "A byte (0 to 255) comes behind the tape: how many it has.",
            "feed(0) = 1 | feed(255) = 2 | feed(-1) = BAD | feed(256) = BAD | feed(MIN) = BAD | feed(MAX) = BAD",
            "count(7) = 2 | feed(128) = 3");
        e.edge("6", "THE TAPE has at most 120 bytes, that come one by one",
            "119 times feed(0) | count(7) = 119 | feed(0) = 120 | feed(0) = FULL | feed(255) = FULL | count(7) = 120");
        e.edge("6", "BAD; FULL.",
            "120 times feed(59) | feed(256) = BAD | feed(-1) = BAD | feed(59) = FULL | count(7) = 120");
        e.edge("6 7", "comes behind the tape",
            "120 times feed(109) | feed(109) = FULL | ministry() = -1000101 | count(7) = 0 | feed(109) = 1",
            "feed(48) = 2 | feed(44) = 3 | feed(49) = 4 | feed(59) = 5 | tell p9,0,0; = 1");
    }

    private static void laws(Edges e) {
        e.edge("7", "law: m WATCHMEN , GLUE ; (0 to 5; 1 to 9)",
            "tell m0,1;p9,0,0; = 1 | watch(0, 1) = FULL | mend(0) = 10",
            "new | tell m5,9;" + SIX + " = 6 | mend(0) = 9 | watch(0, 1) = 1 | watch(1, 1) = 3 | watch(2, 1) = 7",
            "watch(3, 1) = 15 | watch(4, 1) = 31 | watch(5, 1) = FULL");
        e.edge("7 8", "law: m WATCHMEN , GLUE ; (0 to 5",
            fault("m6,1;p0,0,0;", 2, 1), fault("m06,1;p0,0,0;", 2, 1), fault("m99,1;p0,0,0;", 2, 1),
            "new | tell m05,1;p0,0,0; = 1 | new | tell m00,1;p0,0,0; = 1");
        e.edge("7 8", "1 to 9",
            fault("m0,0;p0,0,0;", 2, 3), fault("m0,00;p0,0,0;", 2, 3), fault("m0,10;p0,0,0;", 2, 3),
            "new | tell m0,09;p0,0,0; = 1 | mend(0) = 9 | new | tell m0,01;p0,0,0; = 1 | mend(0) = 1");
        e.edge("7", "ministry: law chair { chair }.",
            fault(LAW, 1, 5), fault("p0,0,0;", 1, 0), fault(LAW + LAW, 1, 5), fault(LAW + "p0,0,0;" + LAW, 1, 12),
            "new | tell " + LAW + "p0,0,0; = 1 | new | tell " + LAW + "p0,0,0;p0,0,0; = 2");
    }

    private static void chairs(Edges e) {
        e.edge("7 39", "SORT: p a plain one, r one that rocks, c a cushioned one, o of oak, t a throne",
            "tell m0,1;p1,0,0;r1,0,0;c1,0,0;o1,0,0;t1,0,0;",
            "kind(0) = 1 | kind(1) = 2 | kind(2) = 3 | kind(3) = 4 | kind(4) = 5");
        e.edge("7 16", "0 to 60; 0 to 9; 0 to 3",
            "tell m0,1;p0,0,0;p60,9,3; | chair(0, 0) = 0 | chair(0, 5) = 0 | chair(0, 6) = 0",
            "chair(1, 0) = 60 | chair(1, 5) = 9 | chair(1, 6) = 3",
            "new | tell m0,1;p00,00,00;p06,09,03; | chair(0, 0) = 0 | chair(1, 0) = 6 | chair(1, 5) = 9 | chair(1, 6) = 3");
        e.edge("7 8", "0 to 60", fault(LAW + "p61,0,0;", 2, 6), fault(LAW + "t99,0,0;", 2, 6));
        e.edge("7 8", "0 to 9", fault(LAW + "p0,10,0;", 2, 8), fault(LAW + "p60,99,0;", 2, 9));
        e.edge("7 8", "0 to 3", fault(LAW + "p0,0,4;", 2, 10), fault(LAW + "p0,0,9;", 2, 10), fault(LAW + "p0,0,10;", 2, 10));
        e.edge("7", "CHAIRS 0 .. 5, 6 at most, one for each sitter",
            "tell " + LAW + SIX + " = 6 | count(1) = 6 | chair(0, 0) = 0 | chair(5, 0) = 0 | chair(6, 0) = BAD | chair(-1, 0) = BAD",
            fault(LAW + SIX + "p0,0,0;", 3, 47));
        e.edge("7", "THE TAPE has at most 120 bytes",
            // The longest text that is right has two figures everywhere: 67 bytes.
            "tell m05,09;p60,09,03;r60,09,03;c60,09,03;o60,09,03;t60,09,03;p60,09,03; = 6 | count(4) = 360");
    }

    private static void readings(Edges e) {
        e.edge("7", "The tape, empty then, is read: how many CHAIRS there are.",
            "tell " + LAW + "p1,0,0; = 1 | count(7) = 0 | tell " + LAW + "p1,0,0;p1,0,0; = 2 | count(7) = 0",
            "tell " + LAW + "x = -1000105 | count(7) = 0 | ministry() = -1000100");
        e.edge("7", "A MINISTRY that is read stands in place of the one before",
            "tell m5,9;p50,9,3;p50,9,3;p50,9,3;p50,9,3;p50,9,3;p50,9,3; = 6 | tell m0,1;t7,1,2; = 1",
            "count(1) = 1 | count(4) = 7 | chair(1, 0) = BAD | kind(0) = 5 | chair(0, 0) = 7 | chair(0, 5) = 1 | chair(0, 6) = 2",
            "mend(0) = 8 | watch(0, 1) = FULL | ranked(1) = BAD");
        String changed = "tell m2,1;p9,2,3;p9,2,3; | cushions(0, 3) | cushions(1, 4) | watch(0, 1) | watch(1, 1) | nights(2)"
            + " | count(5) = 4 | minister(3) = 1";
        String anew = "tell m2,1;p9,2,3;p9,2,3; = 2";
        e.edge("7", "NIGHT 0", changed, "count(2) = 2", anew, "count(2) = 0");
        e.edge("7", "no CUSHIONS", changed, anew, "chair(0, 1) = 0 | chair(1, 1) = 0 | chair(0, 2) = 9");
        e.edge("7", "nothing is WATCHED", changed, anew, "count(3) = 0 | chair(0, 4) = 0 | chair(1, 4) = 0 | watch(1, 1) = 2");
        e.edge("7", "nobody was CAUGHT", changed, anew, "count(5) = 0 | chair(0, 8) = 0 | chair(1, 8) = 0 | chair(0, 5) = 2");
        e.edge("7 9", "no ACT can be undone.", changed, "count(6) = 6", anew, "count(6) = 0 | undo() = STATE");
        e.edge("7 9", "-1000100 less the place of a FAULT: all stays.",
            changed, "ask(1, 0) | look | tell m3,9;t60,9,1;x = -1000113 | fault() = 1 | same | count(6) = 6 | undo() = 5",
            "tell m0,1;p0,0,4; = -1000110 | count(6) = 5 | watch(0, 0) = 2 | mend(0) = 10 | mend(0) = 11");
        e.edge("7", "all stays",
            "row(0, 0, -1) = SIZE | image(0) = STATE | tell x = -1000100 | status() = 4 | restore(0) = STATE",
            "tell m0,1;p9,0,0; | image(0) = 1 | tell m0,1; = -1000105 | restore(0) = 1 | chair(0, 0) = 9");
    }

    private static final String FIGURES = "0123456789";

    /** All 256 bytes but some behind a text that is right so far: which can stand there, all others being faults. */
    private static String eachByte(String before, String stand, String butThese) {
        StringBuilder script = new StringBuilder();
        for (int letter = 0; letter < 256; letter++) {
            if (butThese.indexOf(letter) >= 0) {
                continue;
            }
            script.append("new");
            for (int k = 0; k < before.length(); k++) {
                script.append(" | feed(").append((int) before.charAt(k)).append(')');
            }
            int place = before.length() + (stand.indexOf(letter) >= 0 ? 1 : 0);
            script.append(" | feed(").append(letter).append(") | ministry() = ").append(-1000100 - place);
            script.append(" | fault() = 1\n");
        }
        return script.toString();
    }

    private static void tokens(Edges e) {
        e.edge("7 8", "letters a to z (each by itself)",
            eachByte("", "m", ""), eachByte(LAW, "prcot", ""), eachByte(LAW + "p0,0,0;r0,0,0;", "prcot", ""),
            fault("mm", 1, 1), fault(LAW + "pp0,0,0;", 1, 6), fault(LAW + "pr", 1, 6));
        e.edge("7 8", "NUMBERS (figures, 2 at most)",
            eachByte("m", "012345", "6789"), eachByte("m0,", "123456789", "0"), eachByte(LAW + "p", FIGURES, ""),
            eachByte(LAW + "p0,", FIGURES, ""), eachByte(LAW + "p0,0,", "0123", "456789"),
            "new | tell m0,1;p09,0,0; = 1 | chair(0, 0) = 9 | new | tell m0,1;p10,0,0; = 1 | chair(0, 0) = 10");
        e.edge("7 8", "SIGNS , and ; nothing else.",
            eachByte("m0", ",", FIGURES), eachByte("m0,1", ";", FIGURES), eachByte(LAW + "p60", ",", FIGURES),
            eachByte(LAW + "p60,9", ",", FIGURES), eachByte(LAW + "p60,9,3", "", FIGURES + ";"));
        e.edge("7 8", "nothing else",
            // A blank ahead, within and behind; a sign of minus or plus; the end of a line.
            "feed(32) | tell m0,1;p0,0,0; = -1000100 | fault() = 1",
            "new | tell m0,1;p0,0,0; = 1 | tell m0,1;p0,0,0; = 1 | feed(109) | feed(48) | feed(32) | ministry() = -1000102",
            "new | feed(109) | feed(45) | ministry() = -1000101 | feed(109) | feed(43) | ministry() = -1000101",
            "new | feed(109) | feed(10) | ministry() = -1000101 | feed(109) | feed(48) | feed(10) | ministry() = -1000102");
    }

    private static void faults(Edges e) {
        e.edge("7 8", "1 it cannot stand there",
            fault("0", 1, 0), fault(",", 1, 0), fault(";", 1, 0), fault("m,1;", 1, 1), fault("m;", 1, 1), fault("mp", 1, 1),
            fault("m0;1,", 1, 2), fault("m0,,", 1, 3), fault("m0,1,", 1, 4), fault(LAW + ";", 1, 5), fault(LAW + "m", 1, 5),
            fault(LAW + "0", 1, 5), fault(LAW + "p,", 1, 6), fault(LAW + "p0;", 1, 7), fault(LAW + "p0,;", 1, 8),
            fault(LAW + "p0,0;", 1, 9), fault(LAW + "p0,0,;", 1, 10), fault(LAW + "p0,0,0,", 1, 11),
            fault(LAW + "p0,0,0p", 1, 11), fault(LAW + "p0,0,0;m", 1, 12), fault(LAW + "p0,0,0;;", 1, 12));
        e.edge("7 8", "or is none (a run of three figures, at its first",
            fault("m000,1;", 1, 1), fault("m0,001;", 1, 3), fault(LAW + "p060,0,0;", 1, 6), fault(LAW + "p0,000,0;", 1, 8),
            fault(LAW + "p0,0,000;", 1, 10), fault("000", 1, 0), fault(LAW + "p0,0,0;000", 1, 12), fault("m0000", 1, 1),
            fault("m00000000000000000000000000000000", 1, 1), fault(LAW + "p12", 1, 8), fault(LAW + "p123", 1, 6));
        e.edge("7 8", "2 a NUMBER that is not as told",
            fault("m6", 2, 1), fault("m6x", 2, 1), fault("m0,0", 2, 3), fault("m0,99", 2, 3), fault(LAW + "p61", 2, 6),
            fault(LAW + "p61x", 2, 6), fault(LAW + "p60,10", 2, 9), fault(LAW + "p60,9,4", 2, 11));
        e.edge("7 8", "3 a chair more than there is room for (its letter)",
            fault(LAW + SIX + "p", 3, 47), fault(LAW + SIX + "r", 3, 47), fault(LAW + SIX + "c", 3, 47),
            fault(LAW + SIX + "o", 3, 47), fault(LAW + SIX + "t", 3, 47), fault(LAW + SIX + "t61,0,0;", 3, 47),
            fault(LAW + SIX + "p0,0,0;p0,0,0;", 3, 47), "new | tell " + LAW + SIX + " = 6 | fault() = 0");
        e.edge("7 8", "of one TOKEN the least",
            // Three figures are no token, whatever they would come to; a letter of no sort is no chair.
            fault("m999,1;", 1, 1), fault(LAW + "p999,0,0;", 1, 6), fault(LAW + "p0,100,0;", 1, 8),
            fault(LAW + SIX + "m", 1, 47), fault(LAW + SIX + "x", 1, 47), fault(LAW + SIX + ";", 1, 47),
            fault(LAW + SIX + "0", 1, 47), fault(LAW + SIX + "P", 1, 47), fault("61", 1, 0), fault("m0,1;99", 1, 5));
        e.edge("7 8", "the first TOKEN that has one (its first byte)",
            fault("m6,0;", 2, 1), fault("m10,000;", 2, 1), fault("m000,0;x", 1, 1), fault(LAW + "p61,10,4;" + SIX, 2, 6),
            fault(LAW + "p60,10,4;", 2, 9), fault(LAW + "p60,09,44;", 2, 12), fault(LAW + SIX.substring(7) + "p0,0,4;p", 2, 45));
    }

    private static void ends(Edges e) {
        String text = "m5,9;p60,9,3;t0,00,0;";
        StringBuilder anew = new StringBuilder();
        StringBuilder behind = new StringBuilder("tell " + text + " = 2");
        for (int many = 0; many <= text.length(); many++) {
            boolean whole = many == 13 || many == text.length();
            if (!whole) {
                anew.append(fault(text.substring(0, many), 1, many)).append('\n');
                behind.append(" | tell ").append(text, 0, many).append(" = ").append(-1000100 - many);
            }
        }
        e.edge("7 8", "the end: how many bytes there are", anew.toString(),
            "new | tell " + text.substring(0, 13) + " = 1 | new | tell " + text + " = 2",
            "new | ministry() = -1000100 | fault() = 1");
        // What was on the tape before, and would go on just so, is there no more.
        e.edge("7 8", "The tape, empty then, is read", behind.toString(), "count(1) = 2",
            "new | tell m00,12;p60,9,3; = -1000104 | tell m0 = -1000102 | tell m0,1 = -1000104 | tell m0,1;p6 = -1000107");
    }

    private static void latest(Edges e) {
        e.edge("8", "0 before one.",
            "fault() = 0 | feed(120) | fault() = 0 | new | tell m0,1;p0,0,0; = 1 | fault() = 0");
        e.edge("8", "The number of the latest FAULT",
            "tell m6 = -1000101 | fault() = 2 | tell x = -1000100 | fault() = 1 | tell " + LAW + SIX + "p = -1000147 | fault() = 3",
            "tell m0,0 = -1000103 | fault() = 2 | tell m0,1;p0,0,0; = 1 | fault() = 2 | nights(1) = 0 | fault() = 2");
    }
}
