/** The boundary cases that the document names in part 4 and in promises 29 to 32, each sentence on objects of its own. */
public final class LapseEdgesTest {
    private static final String START = Script.START, GRANTED = Script.GRANTED, RICH = Script.RICH;
    /** WORK 5 is NEXT of WORK 4 and comes on DAY 100. */
    private static final String NEXT = START + ", work 4 0 100";

    private LapseEdgesTest() {
    }

    public static void main(String[] args) {
        lapse();
        byDays();
        byCopies();
        lastYear();
        lapses();
        pass();
        mustAsk();
        options();
        holdOnThatDay();
        Check.end("LapseEdgesTest");
    }

    private static void lapse() {
        Script.edge("29: no such GRANT", RICH, "! lapse -1 100000 0 = BAD, ! lapse 5 100000 0 = BAD, "
            + "! lapse MIN 100000 0 = BAD, ! lapse MAX 100000 0 = BAD");
        Script.edge("29: DAYS 1 at least", RICH, "! lapse 0 0 0 = BAD, ! lapse 0 99999 0 = BAD, ! lapse 0 100000 1 = 1, "
            + "! lapse 0 199999 1 = 1");
        Script.edge("29: DAYS 3600 at most", RICH, "! lapse 0 360100000 0 = BAD, ! lapse 0 360000000 1 = 3600, "
            + "! lapse 0 360099999 1 = 3600");
        Script.edge("29: below 0", RICH, "! lapse 0 -1 0 = BAD, ! lapse 0 -100000 0 = BAD, ! lapse 0 MIN 0 = BAD, "
            + "! lapse 0 MAX 0 = BAD");
        Script.edge("29: what 0, 1", RICH, "! lapse 0 100000 -1 = BAD, ! lapse 0 100000 2 = BAD, "
            + "! lapse 0 100000 MIN = BAD, ! lapse 0 100000 0 = 0");
        Script.edge("29: NOT: it ENDED", RICH, "! lapse 3 100000 0 = NOT, ! lapse 3 100000 1 = NOT");
        Script.edge("29: NOT: it ENDED on DAY 0", GRANTED, "ends 0, ! lapse 0 100000 0 = NOT, ! lapse 0 100000 1 = NOT, "
            + "days 9, ! lapse 0 100000 0 = NOT");
        Script.edge("29: BAD ahead of NOT", RICH, "! lapse 3 99999 0 = BAD, ! lapse 3 100000 2 = BAD");
    }

    private static void byDays() {
        Script.edge("part 4: none told since its first DAY", GRANTED, "days 4, lapse 0 500000 0 = 0, lapse 0 500000 1 = 1, "
            + "days 1, lapse 0 500000 0 = 1, "
            + "lapse 0 500000 1 = 0, days 1, lapse 0 500000 0 = 1, lapse 0 500000 1 = 0");
        Script.edge("part 4: one DAY", GRANTED, "lapse 0 100000 0 = 0, lapse 0 100000 1 = 1, days 1, lapse 0 100000 0 = 1, "
            + "lapse 0 100000 1 = 0");
        Script.edge("part 4: one DAY, and 99999 copies", GRANTED, "lapse 0 199999 0 = 0, days 1, lapse 0 199999 0 = 1, "
            + "lapse 0 200000 0 = 0");
        Script.edge("part 4: 3600 DAYS are never gone", GRANTED, "wait 3599, lapse 0 360000000 0 = 0, "
            + "lapse 0 360000000 1 = 1, lapse 0 359900000 0 = 1");
        Script.edge("part 4: ahead of its first DAY", START, "set 3 3599, grant 4 1, lapse 0 100000 0 = 0, "
            + "lapse 0 100000 1 = 3600, lapse 0 360000000 1 = 7199");
        Script.edge("part 4: made behind its first DAY", START, "days 5, grant 4 1, lapse 0 500000 0 = 1, "
            + "lapse 0 600000 1 = 1");
        String told = GRANTED + ", days 3, state 0 9 0 10, days 4";
        Script.edge("part 4: since a statement by which COPIES rose", told, "lapse 0 400000 0 = 1, lapse 0 500000 0 = 0, "
            + "lapse 0 500000 1 = 1");
        Script.edge("part 4: COPIES stayed", told, "state 0 1 1 10, lapse 0 500000 1 = 1, state 0 0 0 10, "
            + "lapse 0 500000 1 = 1");
        Script.edge("part 4: COPIES fell", told, "state 0 0 1 10, lapse 0 500000 1 = 1, state 0 1 0 10, "
            + "lapse 0 500000 1 = 5");
        Script.edge("part 4: COPIES stayed 0", GRANTED, "state 0 0 9 10, days 3, state 0 9 0 10, lapse 0 500000 1 = 2, "
            + "state 0 1 0 10, lapse 0 500000 1 = 5");
        Script.edge("part 4: the first telling counts", told, "anew 0 0 8 0, lapse 0 500000 1 = 1, anew 0 0 0 0, "
            + "lapse 0 500000 1 = 0, lapse 0 500000 0 = 1");
        Script.edge("part 4: told anew they rose by it", GRANTED, "days 2, state 0 0 0 10, days 2, lapse 0 500000 1 = 1, "
            + "anew 0 0 1 0, lapse 0 500000 1 = 3");
    }

    private static void byCopies() {
        Script.edge("part 4: it began 360 DAYS ago", GRANTED, "days 359, lapse 0 360000001 0 = 0, days 1, "
            + "lapse 0 360000001 0 = 2");
        Script.edge("part 4: or earlier", GRANTED, "wait 361, lapse 0 360000001 0 = 2, wait 3238, lapse 0 360000001 0 = 2");
        Script.edge("part 4: by its first DAY, not by when it was made", START, "wait 360, grant 4 1, "
            + "lapse 0 360000001 0 = 2, set 3 1, grant 4 1, "
            + "lapse 1 360000001 0 = 0");
        Script.edge("part 4: less than told", GRANTED, "wait 360, state 0 9 0 10, lapse 0 360000010 0 = 2, "
            + "lapse 0 360000009 0 = 0");
        Script.edge("part 4: less than 0 is none", GRANTED, "wait 360, lapse 0 360000000 0 = 0, lapse 0 360000001 0 = 2");
        Script.edge("part 4: 99999 copies", GRANTED, "wait 360, state 0 99998 0 10, lapse 0 360099999 0 = 2, "
            + "state 0 1 0 10, lapse 0 360099999 0 = 0");
        Script.edge("part 4: what each added, together", GRANTED, "wait 360, state 0 5 0 10, state 0 0 5 10, "
            + "state 0 4 0 10, lapse 0 360000009 0 = 0, "
            + "lapse 0 360000010 0 = 2");
        Script.edge("part 4: what one added above 0", GRANTED, "wait 360, state 0 0 5 10, state 0 7 0 10, "
            + "lapse 0 360000002 0 = 0, lapse 0 360000003 0 = 2");
        Script.edge("part 4: the first that holds", GRANTED, "wait 360, lapse 0 36000001 0 = 1, lapse 0 36100001 0 = 2, "
            + "lapse 0 36100000 0 = 0");
        Script.edge("part 4: NEAR is of 1 alone", GRANTED, "wait 360, lapse 0 36100001 1 = 1, lapse 0 36000001 1 = 0");
        Script.edge("part 4: AS KNOWN TODAY", GRANTED, "wait 360, state 0 5 0 10, anew 0 0 9 0, lapse 0 360000009 0 = 0, "
            + "anew 0 0 8 0, lapse 0 360000009 0 = 2");
    }

    private static void lastYear() {
        String told = GRANTED + ", wait 360, state 0 5 0 10";
        Script.edge("part 4: in the last 360 DAYS, TODAY", told, "lapse 0 360000005 0 = 0, lapse 0 360000006 0 = 2");
        Script.edge("part 4: in the last 360 DAYS, the first of them", told, "days 359, lapse 0 360000005 0 = 0");
        Script.edge("part 4: ahead of the last 360 DAYS", told, "days 360, lapse 0 360000005 0 = 2, "
            + "lapse 0 360000001 0 = 2");
        Script.edge("part 4: by the first telling", told, "days 360, anew 0 0 9 0, lapse 0 360000001 0 = 2");
    }

    private static void lapses() {
        Script.edge("30: no such GRANT", RICH, "! lapses -1 100000 = BAD, ! lapses 5 100000 = BAD, "
            + "! lapses MIN 100000 = BAD, ! lapses MAX 100000 = BAD");
        Script.edge("30: DAYS and copies", RICH, "! lapses 4 99999 = BAD, ! lapses 4 360100000 = BAD, ! lapses 4 -1 = BAD, "
            + "! lapses 4 MIN = BAD, ! lapses 4 MAX = BAD");
        Script.edge("30: the least", RICH, "lapses 4 100000 = 1, ofGrant 4 10 = 10, count 4 = 3");
        Script.edge("30: NOT: WHY is 0", RICH, "! lapses 0 100000 = NOT, ! lapses 0 360099999 = NOT, ofGrant 0 10 = -1");
        Script.edge("30: NOT: it ENDED", RICH, "! lapses 3 100000 = NOT, lapses 4 100000 = 1, ! lapses 4 100000 = NOT");
        Script.edge("30: NOT: it ENDED on DAY 0", GRANTED, "ends 0, ! lapses 0 100000 = NOT, days 9, "
            + "! lapses 0 100000 = NOT, ofGrant 0 10 = 0");
        Script.edge("30: BAD ahead of NOT", RICH, "! lapses 3 99999 = BAD, ! lapses 3 360100000 = BAD");
        Script.edge("30: by 1 on its DAY", GRANTED, "days 4, ! lapses 0 500000 = NOT, days 1, lapses 0 500000 = 1, "
            + "ofGrant 0 10 = 5");
        Script.edge("30: by 2", GRANTED, "wait 360, ! lapses 0 36100000 = NOT, lapses 0 36100001 = 2, ofGrant 0 10 = 360");
        Script.edge("30: ENDED TODAY", GRANTED, "days 5, lapses 0 500000 = 1, holder 4 0 4 5 = 1, holder 4 0 5 5 = NOT, "
            + "holder 4 0 5 4 = 1, count 4 = 0");
    }

    private static void pass() {
        Script.edge("31: no such GRANT", RICH, "! pass -1 = BAD, ! pass 5 = BAD, ! pass MIN = BAD, ! pass MAX = BAD, "
            + "pass 4 = 1");
        Script.edge("31: NOT: it has none", GRANTED, "! pass 0 = NOT, set 9 1, grant 4 1, pass 1 = 1, ! pass 0 = NOT");
        Script.edge("31: NOT: it did", RICH, "pass 0 = 1, ! pass 0 = NOT, days 1, ! pass 0 = NOT");
        Script.edge("31: an ENDED one, too", RICH, "pass 3 = 1, ! pass 3 = NOT");
    }

    private static void mustAsk() {
        Script.edge("32: no such WORK", RICH, "! mustAsk -1 0 20 -1 = BAD, ! mustAsk 11 0 20 -1 = BAD, "
            + "! mustAsk MIN 0 20 -1 = BAD, ! mustAsk MAX 0 20 -1 = BAD");
        Script.edge("32: WORKS alone", RICH, "! mustAsk 0 0 20 -1 = BAD, ! mustAsk 1 0 20 -1 = BAD, "
            + "! mustAsk 8 0 20 -1 = BAD, ! mustAsk 6 0 20 -1 = 0");
        Script.edge("32: TONGUES", RICH, "! mustAsk 7 -1 20 -1 = BAD, ! mustAsk 7 40 20 -1 = BAD, "
            + "! mustAsk 7 MIN 20 -1 = BAD, ! mustAsk 7 39 20 -1 = 0");
        Script.edge("32: DAYS", RICH, "! mustAsk 7 0 -1 -1 = BAD, ! mustAsk 7 0 3600 -1 = BAD, ! mustAsk 7 0 MAX -1 = BAD, "
            + "! mustAsk 7 0 3599 -1 = 0, ! mustAsk 7 0 0 -1 = 0");
        Script.edge("32: i -1 at least", RICH, "! mustAsk 7 0 20 -2 = BAD, ! mustAsk 7 0 20 MIN = BAD, "
            + "! mustAsk 7 0 20 -1 = 3, ! mustAsk 7 0 20 0 = 0");
        Script.edge("32: the last and none behind it", RICH, "! mustAsk 7 0 20 1 = 1, ! mustAsk 7 0 20 2 = 4, "
            + "! mustAsk 7 0 20 3 = BAD, ! mustAsk 7 0 20 MAX = BAD");
        Script.edge("32: none at all", START, "! mustAsk 4 0 0 -1 = 0, ! mustAsk 4 0 0 0 = BAD");
        Script.edge("32: by numbers", NEXT, "set 9 9, grant 4 1, grant 5 1, grant 4 2, mustAsk 5 0 100 0 = 0, "
            + "mustAsk 5 0 100 1 = 2, mustAsk 5 0 100 -1 = 2");
        Script.edge("32: all 120", NEXT, "set 9 9, 120* grant 4 1, mustAsk 5 0 100 -1 = 120, mustAsk 5 0 100 119 = 119, "
            + "! mustAsk 5 0 100 120 = BAD");
        Script.edge("32: TONGUE 39", NEXT, "set 0 39, set 9 9, grant 4 1, mustAsk 5 39 100 -1 = 1, mustAsk 5 38 100 -1 = 0");
    }

    private static void options() {
        Script.edge("32: from the DAY on which it comes", NEXT, "set 9 5, grant 4 1, mustAsk 5 0 99 -1 = 0, "
            + "mustAsk 5 0 100 -1 = 1");
        Script.edge("32: so many DAYS, it counted", NEXT, "set 9 5, grant 4 1, mustAsk 5 0 104 -1 = 1, "
            + "mustAsk 5 0 105 -1 = 0");
        Script.edge("32: one DAY", NEXT, "set 9 1, grant 4 1, mustAsk 5 0 99 -1 = 0, mustAsk 5 0 100 -1 = 1, "
            + "mustAsk 5 0 101 -1 = 0");
        Script.edge("32: 720 DAYS", NEXT, "set 9 720, grant 4 1, mustAsk 5 0 819 -1 = 1, mustAsk 5 0 820 -1 = 0");
        Script.edge("32: no OPTION", NEXT, "grant 4 1, mustAsk 5 0 100 -1 = 0");
        Script.edge("32: it comes on DAY 0", START, "work 4 0 0, set 9 1, grant 4 1, mustAsk 5 0 0 -1 = 1, "
            + "mustAsk 5 0 1 -1 = 0");
        Script.edge("32: it comes on DAY 3599", START, "work 4 0 3599, set 9 720, grant 4 1, mustAsk 5 0 3598 -1 = 0, "
            + "mustAsk 5 0 3599 -1 = 1");
        Script.edge("32: whose HOUSE did not PASS", NEXT, "set 9 5, 2* grant 4 1, pass 0, mustAsk 5 0 100 -1 = 1, "
            + "mustAsk 5 0 100 0 = 1, pass 1, mustAsk 5 0 100 -1 = 0");
        Script.edge("32: NEXT, not the one behind it", NEXT, "work 4 0 100, set 9 5, grant 4 1, mustAsk 5 0 100 -1 = 1, "
            + "mustAsk 6 0 100 -1 = 0");
        Script.edge("32: no option on itself", NEXT, "set 9 5, grant 5 1, mustAsk 5 0 100 -1 = 0, mustAsk 4 0 0 -1 = 0");
        Script.edge("32: NEXT of the BUNDLE, not of its WORKS", START, "work 4 0 100, bundle 0 0, join 6 4 1, "
            + "work 4 0 200, set 9 5, grant 6 1, "
            + "mustAsk 5 0 100 -1 = 0, mustAsk 7 0 200 -1 = 1");
        Script.edge("32: NEXT that came behind the GRANT", START, "set 9 5, grant 4 1, ! mustAsk 5 0 100 -1 = BAD, "
            + "work 4 0 100, mustAsk 5 0 100 -1 = 1");
    }

    private static void holdOnThatDay() {
        Script.edge("32: its last DAY is that one", NEXT, "set 9 5, set 4 100, grant 4 1, mustAsk 5 0 100 -1 = 1, "
            + "mustAsk 5 0 104 -1 = 1");
        Script.edge("32: its last DAY is ahead of it", NEXT, "set 9 5, set 4 99, grant 4 1, mustAsk 5 0 100 -1 = 0");
        Script.edge("32: its first DAY is that one", NEXT, "set 9 5, set 3 100, grant 4 1, mustAsk 5 0 100 -1 = 1");
        Script.edge("32: its first DAY is behind it", NEXT, "set 9 5, set 3 101, grant 4 1, mustAsk 5 0 101 -1 = 0");
        Script.edge("32: ENDED on that DAY", NEXT, "set 9 5, grant 4 1, days 100, ends 0, mustAsk 5 0 100 -1 = 0");
        Script.edge("32: ENDED a DAY later", NEXT, "set 9 5, grant 4 1, days 101, ends 0, mustAsk 5 0 100 -1 = 1, "
            + "mustAsk 5 0 104 -1 = 1");
        Script.edge("32: made behind that DAY", NEXT, "days 102, set 9 5, grant 4 1, mustAsk 5 0 102 -1 = 1, "
            + "mustAsk 5 0 100 -1 = 1");
    }
}
