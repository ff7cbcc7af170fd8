/** The boundary cases that the document names in part 6 and in promises 39 to 47, each sentence on objects of its own. */
public final class ShelfEdgesTest {
    private static final String RICH = Script.RICH;
    /** SHELF 0: nothing; 1: AUTHOR 0; 2: a ROW of the ints 1, 2, 3; 3: of four ints; 4: of three longs; 5: of no ints. */
    private static final String SHELVES = "body 6, keep 1 0, ints 2 1 2 3, ints 3 4 5 6 7, row 4 3 3, row 5 2 0";

    private ShelfEdgesTest() {
    }

    public static void main(String[] args) {
        act();
        wraps();
        trace();
        keep();
        row();
        put();
        bits();
        element();
        shift();
        shiftPlaces();
        cast();
        count();
        Check.end("ShelfEdgesTest");
    }

    private static void act() {
        Script.edge("39: 0: no such BODY", RICH, "act -1 0 5 = 0, act 11 0 5 = 0, act MIN 3 5 = 0, act MAX 3 5 = 0, "
            + "act 10 0 5 = 25");
        Script.edge("39: 0: no such ACT", RICH, "act 0 -1 5 = 0, act 0 4 5 = 0, act 0 MIN 5 = 0, act 0 MAX 5 = 0, "
            + "act 0 3 5 = 14");
        Script.edge("39: no TRACE then: no such BODY", RICH, "count 9 = 10, act 11 0 5 = 0, count 9 = 0, ! trace 0 = BAD");
        Script.edge("39: no TRACE then: no such ACT", RICH, "trace 0 = 2, act 0 4 5 = 0, count 9 = 0, ! trace 0 = BAD");
        Script.edge("39: the last BODY", "149* body 0, body 6 = 149, act 149 0 0 = 894, act 150 0 0 = 0");
    }

    /** BODY 0 is a BODY, 1 a HOUSE, 2 an AGENT, 3 a SUB, 4 an AUTHOR, 5 a WORK, 6 a BUNDLE, 7 a FILM. */
    private static void wraps() {
        String kinds = "body 0, body 1, body 2, body 3, body 6, work 4 4 0, bundle 4 0, work 7 4 0";
        Script.edge("39: grants wraps", kinds, "act 1 0 MAX = -2147483642, act 4 0 MAX = -2147483627");
        Script.edge("39: reads wraps", kinds, "act 0 1 MIN = MAX, act 2 1 MAX = 14, act 3 1 MAX = 20");
        Script.edge("39: owes wraps", kinds, "act 0 2 MIN = MIN, act 5 2 -2147483643 = MIN, act 3 2 MIN = 2147483640");
        Script.edge("39: tells wraps", kinds, "act 7 3 MAX = 2147483639, act 0 3 MIN = MAX");
    }

    private static void trace() {
        Script.edge("40: before any act", "body 3, ! trace 0 = BAD, ! trace -1 = BAD");
        Script.edge("40: the first and the last", RICH, "! trace -1 = BAD, ! trace 0 = 2, ! trace 9 = 1, ! trace 10 = BAD");
        Script.edge("40: far off", RICH, "! trace MIN = BAD, ! trace MAX = BAD, ! trace 24 = BAD, ! trace 23 = BAD");
        Script.edge("40: of the latest act() alone", RICH, "act 8 0 1 = 17, count 9 = 1, ! trace 0 = 1, ! trace 1 = BAD");
    }

    private static void keep() {
        Script.edge("41: SHELVES 0 .. 5", RICH, "! keep -1 4 = BAD, ! keep 6 4 = BAD, ! keep MIN 4 = BAD, "
            + "! keep MAX 4 = BAD, keep 0 4 = 1, keep 5 4 = 1");
        Script.edge("41: no such BODY", RICH, "! keep 0 -2 = BAD, ! keep 0 11 = BAD, ! keep 0 MIN = BAD, "
            + "! keep 0 MAX = BAD, keep 0 10 = 1, cast 0 5 = 5");
        Script.edge("41: BODY 0", RICH, "keep 0 0 = 1, cast 0 6 = 6");
        Script.edge("41: nothing (-1)", RICH, "keep 0 -1 = 1, ! cast 0 0 = -11, keep 1 -1 = 1, ! put 1 0 1 = -11, "
            + "! keep 1 -1 = 1");
        Script.edge("41: in place of a ROW", RICH, "keep 1 4 = 1, ! element 1 0 = LEAST, ! put 1 0 1 = -12, cast 1 4 = 4");
    }

    private static void row() {
        Script.edge("42: SHELVES 0 .. 5", RICH, "! row -1 0 1 = BAD, ! row 6 0 1 = BAD, ! row MIN 0 1 = BAD, "
            + "! row MAX 0 1 = BAD, row 0 0 1 = 1, row 5 0 1 = 1");
        Script.edge("42: sorts 0 .. 4", RICH, "! row 1 -1 1 = BAD, ! row 1 5 1 = BAD, ! row 1 MIN 1 = BAD, "
            + "! row 1 MAX 1 = BAD, row 1 4 1 = 1, row 1 0 1 = 1");
        Script.edge("42: n 60 at most", RICH, "! row 1 3 61 = BAD, ! row 1 3 MAX = BAD, row 1 3 60 = 1, element 1 59 = 0, "
            + "! element 1 60 = LEAST");
        Script.edge("42: -14: n below 0", RICH, "! row 1 3 -1 = -14, ! row 1 3 MIN = -14, row 1 3 0 = 1, "
            + "! element 1 0 = LEAST, ! put 1 0 1 = -13");
        Script.edge("42: BAD ahead of -14", RICH, "! row 6 3 -1 = BAD, ! row 1 5 -1 = BAD, ! row 1 -1 -1 = BAD, "
            + "! row -1 0 MIN = BAD");
        Script.edge("42: 0 at first, though others were there", RICH, "row 1 2 4 = 1, element 1 0 = 0, element 1 3 = 0, "
            + "row 1 4 2 = 1, element 1 1 = 0");
        Script.edge("42: a lesser ROW, then a greater one", RICH, "row 1 2 1, put 1 0 5, row 1 2 4, element 1 0 = 0, "
            + "element 1 1 = 0");
        Script.edge("42: in place of a BODY", RICH, "row 0 2 1 = 1, ! cast 0 0 = -12, element 0 0 = 0");
    }

    private static void put() {
        Script.edge("43: SHELVES 0 .. 5", SHELVES, "! put -1 0 9 = BAD, ! put 6 0 9 = BAD, ! put MIN 0 9 = BAD, "
            + "! put MAX 0 9 = BAD");
        Script.edge("43: -11: nothing is there", SHELVES, "! put 0 0 9 = -11, ! put 0 -1 9 = -11, ! put 0 60 9 = -11");
        Script.edge("43: -12: a BODY", SHELVES, "! put 1 0 9 = -12, ! put 1 -1 9 = -12");
        Script.edge("43: -13: the first and the last place", SHELVES, "! put 2 -1 9 = -13, ! put 2 3 9 = -13, "
            + "put 2 0 9 = 1, put 2 2 8 = 1, "
            + "element 2 0 = 9, element 2 1 = 2, element 2 2 = 8");
        Script.edge("43: -13: far off", SHELVES, "! put 2 MIN 9 = -13, ! put 2 MAX 9 = -13, ! put 5 0 9 = -13");
        Script.edge("43: the last of 60", "row 0 3 60, put 0 59 7 = 1, element 0 59 = 7, ! put 0 60 7 = -13");
    }

    private static void bits(int sort, String told, String due) {
        Script.edge("43: " + told + " in a ROW of sort " + sort, "row 0 " + sort + " 1", "put 0 0 " + told + " = 1",
            "element 0 0 = " + due);
    }

    private static void bits() {
        bits(0, "127", "127");
        bits(0, "128", "-128");
        bits(0, "-128", "-128");
        bits(0, "-129", "127");
        bits(0, "256", "0");
        bits(0, "MOST", "-1");
        bits(1, "32767", "32767");
        bits(1, "32768", "-32768");
        bits(1, "-32769", "32767");
        bits(1, "65536", "0");
        bits(1, "LEAST", "0");
        bits(2, "MAX", "2147483647");
        bits(2, "2147483648", "-2147483648");
        bits(2, "-2147483649", "2147483647");
        bits(2, "4294967296", "0");
        bits(3, "MOST", "MOST");
        bits(3, "-9223372036854775807", "-9223372036854775807");
        bits(3, "LEAST", "LEAST");
        bits(4, "0", "0");
        bits(4, "1", "1");
        bits(4, "2", "1");
        bits(4, "-1", "1");
        bits(4, "4294967296", "1");
        bits(4, "LEAST", "1");
    }

    private static void element() {
        Script.edge("44: SHELVES 0 .. 5", SHELVES, "! element -1 0 = LEAST, ! element 6 0 = LEAST, "
            + "! element MIN 0 = LEAST, ! element MAX 0 = LEAST");
        Script.edge("44: nothing, a BODY", SHELVES, "! element 0 0 = LEAST, ! element 1 0 = LEAST");
        Script.edge("44: the first and the last place", SHELVES, "! element 2 -1 = LEAST, ! element 2 0 = 1, "
            + "! element 2 2 = 3, ! element 2 3 = LEAST");
        Script.edge("44: far off, and no elements", SHELVES, "! element 2 MIN = LEAST, ! element 2 MAX = LEAST, "
            + "! element 5 0 = LEAST");
    }

    private static void shift() {
        Script.edge("45: SHELVES 0 .. 5", SHELVES, "! shift -1 0 2 0 1 = BAD, ! shift 6 0 2 0 1 = BAD, "
            + "! shift 2 0 -1 0 1 = BAD, ! shift 2 0 6 0 1 = BAD, "
            + "! shift MIN 0 MAX 0 1 = BAD");
        Script.edge("45: BAD ahead of -11", SHELVES, "! shift 0 0 6 0 1 = BAD, ! shift 6 0 0 0 1 = BAD");
        Script.edge("45: -11: either", SHELVES, "! shift 0 0 2 0 1 = -11, ! shift 2 0 0 0 1 = -11, ! shift 0 0 0 0 0 = -11");
        Script.edge("45: -11 ahead of -12", SHELVES, "! shift 0 0 1 0 1 = -11, ! shift 1 0 0 0 1 = -11");
        Script.edge("45: -12: no ROWS", SHELVES, "! shift 1 0 2 0 1 = -12, ! shift 2 0 1 0 1 = -12, "
            + "! shift 1 0 1 0 0 = -12");
        Script.edge("45: -12: of unlike sorts", SHELVES, "! shift 2 0 4 0 1 = -12, ! shift 4 0 2 0 1 = -12, "
            + "! shift 2 0 4 0 0 = -12");
        Script.edge("45: -12 ahead of -13", SHELVES, "! shift 2 9 4 0 1 = -12, ! shift 1 0 2 0 -1 = -12");
    }

    private static void shiftPlaces() {
        Script.edge("45: -13: n below 0", SHELVES, "! shift 2 0 3 0 -1 = -13, ! shift 2 0 3 0 MIN = -13, "
            + "! shift 2 0 3 0 0 = 0");
        Script.edge("45: all of a ROW", SHELVES, "shift 2 0 3 0 3 = 3, element 3 0 = 1, element 3 2 = 3, element 3 3 = 7");
        Script.edge("45: to the end of another", SHELVES, "shift 2 0 3 1 3 = 3, element 3 0 = 4, element 3 1 = 1, "
            + "element 3 3 = 3");
        Script.edge("45: -13: beyond the end of the one", SHELVES, "! shift 2 0 3 0 4 = -13, ! shift 2 1 3 0 3 = -13, "
            + "! shift 2 3 3 0 1 = -13, shift 2 2 3 0 1 = 1");
        Script.edge("45: -13: beyond the end of the other", SHELVES, "! shift 3 0 2 0 4 = -13, ! shift 3 0 2 1 3 = -13, "
            + "! shift 3 0 2 3 1 = -13, shift 3 0 2 2 1 = 1");
        Script.edge("45: -13: ahead of the first place", SHELVES, "! shift 2 -1 3 0 1 = -13, ! shift 2 0 3 -1 1 = -13, "
            + "! shift 2 MIN 3 0 1 = -13, ! shift 2 0 3 MIN 1 = -13");
        Script.edge("45: none at the end", SHELVES, "! shift 2 3 3 4 0 = 0, ! shift 5 0 5 0 0 = 0, "
            + "! shift 2 4 3 0 0 = -13, ! shift 2 0 3 5 0 = -13");
        Script.edge("45: places that would wrap", SHELVES, "! shift 2 1 3 0 MAX = -13, ! shift 2 MAX 3 0 1 = -13, "
            + "! shift 2 0 3 MAX 1 = -13, ! shift 2 MAX 3 MAX MAX = -13");
        Script.edge("45: the same, forward, as they all were", SHELVES, "shift 3 0 3 1 3 = 3, element 3 0 = 4, "
            + "element 3 1 = 4, element 3 2 = 5, element 3 3 = 6");
        Script.edge("45: the same, back, as they all were", SHELVES, "shift 3 1 3 0 3 = 3, element 3 0 = 5, "
            + "element 3 1 = 6, element 3 2 = 7, element 3 3 = 7");
        Script.edge("45: the same, in place", SHELVES, "! shift 3 0 3 0 4 = 4, element 3 3 = 7");
        Script.edge("45: sixty", "row 0 3 60, row 1 3 60, put 0 59 5, shift 0 0 1 0 60 = 60, element 1 59 = 5, "
            + "! shift 0 0 1 0 61 = -13");
    }

    private static void cast() {
        Script.edge("46: SHELVES 0 .. 5", SHELVES, "! cast -1 0 = BAD, ! cast 6 0 = BAD, ! cast MIN 0 = BAD, "
            + "! cast MAX 0 = BAD");
        Script.edge("46: KINDS 0 .. 7", SHELVES, "! cast 1 -1 = BAD, ! cast 1 8 = BAD, ! cast 1 MIN = BAD, "
            + "! cast 1 MAX = BAD, ! cast 1 0 = 6, ! cast 1 7 = -12");
        Script.edge("46: BAD ahead of -11 and -12", SHELVES, "! cast 0 8 = BAD, ! cast 0 -1 = BAD, ! cast 2 8 = BAD");
        Script.edge("46: -11: nothing is there", SHELVES, "! cast 0 0 = -11, ! cast 0 7 = -11");
        Script.edge("46: -12: a ROW", SHELVES, "! cast 2 0 = -12, ! cast 5 0 = -12");
        Script.edge("46: a KIND, or under it", RICH, "keep 0 3, cast 0 3 = 3, cast 0 2 = 3, cast 0 1 = 3, cast 0 0 = 3, "
            + "! cast 0 4 = -12");
        Script.edge("46: not above it", RICH, "keep 0 1, ! cast 0 2 = -12, ! cast 0 3 = -12, cast 0 1 = 1");
        Script.edge("46: a FILM is no BUNDLE", RICH, "keep 0 6, cast 0 4 = 7, ! cast 0 5 = -12, ! cast 0 6 = -12, "
            + "cast 0 7 = 7");
    }

    private static void count() {
        Script.edge("47: what 0 .. 9", RICH, "! count -1 = BAD, ! count 10 = BAD, ! count MIN = BAD, ! count MAX = BAD, "
            + "! count 0 = 11, ! count 9 = 10");
        Script.edge("47: HOUSES, from BODY 0 on", "body 1, count 1 = 1, body 2, count 1 = 2, body 3, count 1 = 3, body 0, "
            + "body 6, count 1 = 3");
        Script.edge("47: WORKS", "body 6, work 4 0 0, count 2 = 1, work 7 0 0, count 2 = 2, bundle 0 0, count 2 = 3, "
            + "count 1 = 0");
        Script.edge("47: that have not ENDED", Script.GRANTED, "count 4 = 1, ends 0, count 4 = 0, count 3 = 1, grant 4 1, "
            + "count 4 = 1, count 3 = 2");
        Script.edge("47: coins PAID, ADVANCES too", Script.START, "set 7 5, grant 4 1, count 8 = 5, state 0 100 0 10, "
            + "pay 0 = 95, count 8 = 100");
        Script.edge("47: bodies that ran", RICH, "count 9 = 10, act 8 0 0, count 9 = 1, act 99 0 0, count 9 = 0");
    }
}
