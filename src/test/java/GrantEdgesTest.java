/** The boundary cases that the document names in part 2 and in promises 10 to 18, each sentence on objects of its own. */
public final class GrantEdgesTest {
    private static final String START = Script.START, GRANTED = Script.GRANTED, RICH = Script.RICH;
    /** What set() takes, and what was told at first. */
    private static final String[] NAMES = {"TONGUE", "LANDS", "FORMS", "from", "to", "AGENT", "SUB", "ADVANCE", "HOLD",
        "OPTION"};
    private static final int[] LEAST = {0, 1, 1, 0, 0, -1, -1, 0, 0, 0};
    private static final int[] MOST = {39, 255, 15, 3599, 3599, 149, 149, 999999, 50, 720};
    private static final int[] FIRST = {0, 1, 1, 0, 0, -1, -1, 0, 0, 0};
    /** All but LAND 0 with FORM 0 is a HOLE of WORK 4 in TONGUE 0. */
    private static final String ONE_HELD = GRANTED;
    private static final String ALL_HELD = START + ", set 1 255, set 2 15, grant 4 1";

    private GrantEdgesTest() {
    }

    public static void main(String[] args) {
        set();
        grant();
        agents();
        parts();
        bundleParts();
        ends();
        ofGrant();
        where();
        holds();
        overlap();
        holes();
        offer();
        best();
        cover();
        Check.end("GrantEdgesTest");
    }

    private static void set() {
        for (int what = 0; what < 10; what++) {
            String name = "10: " + NAMES[what];
            String call = "set " + what + " ";
            Script.edge(name + " at first", call + LEAST[what] + " = " + FIRST[what]);
            Script.edge(name + " at least", RICH, "! " + call + (LEAST[what] - 1) + " = BAD", "! " + call + "MIN = BAD",
                call + LEAST[what], call + LEAST[what] + " = " + LEAST[what]);
            Script.edge(name + " at most", RICH, "! " + call + (MOST[what] + 1) + " = BAD", "! " + call + "MAX = BAD",
                call + MOST[what], call + LEAST[what] + " = " + MOST[what]);
        }
        Script.edge("10: what 0 .. 9", RICH, "! set -1 1 = BAD, ! set 10 1 = BAD, ! set MIN 1 = BAD, ! set MAX 1 = BAD, "
            + "set 9 1 = 30");
        Script.edge("10: AGENT, SUB: looked at by grant()", START, "set 5 5 = -1, ! grant 4 1 = BAD, body 2 = 5, "
            + "grant 4 1 = 0");
    }

    private static void grant() {
        Script.edge("11: no such WORK", RICH, "! grant -1 1 = BAD, ! grant 11 1 = BAD, ! grant MIN 1 = BAD, "
            + "! grant MAX 1 = BAD");
        Script.edge("11: WORKS alone", RICH, "! grant 0 1 = BAD, ! grant 1 1 = BAD, ! grant 8 1 = BAD, grant 6 1 = 5, "
            + "grant 5 1 = 6");
        Script.edge("11: no such HOUSE", RICH, "! grant 4 -1 = BAD, ! grant 4 11 = BAD, ! grant 4 MIN = BAD, "
            + "! grant 4 MAX = BAD");
        Script.edge("11: HOUSES (AGENTS, SUBS) alone", RICH, "! grant 4 0 = BAD, ! grant 4 4 = BAD, ! grant 4 8 = BAD, "
            + "grant 4 1 = 5, grant 4 2 = 6, grant 4 3 = 7");
        Script.edge("11: BAD: from above to", RICH, "set 3 9, set 4 8, ! grant 4 1 = BAD, set 4 9, grant 4 1 = 5");
        Script.edge("11: all DAYS", START, "grant 4 1 = 0, ofGrant 0 5 = 0, ofGrant 0 6 = 3599");
        Script.edge("11: the last DAY alone", START, "set 3 3599, grant 4 1 = 0, holder 4 0 3598 0 = NOT, "
            + "holder 4 0 3599 0 = 1");
        Script.edge("11: BAD: a BUNDLE without WORKS", RICH, "! grant 10 1 = BAD, join 10 7 1 = 1, grant 10 1 = 5");
        Script.edge("11: NOT: FREE TODAY", START, "term 1, dies 0, grant 4 1 = 0, days 1, ! grant 4 1 = NOT, days 9, "
            + "! grant 4 1 = NOT");
        String bundle = START + ", body 6, work 4 5 0, bundle 5 0, join 7 6 1, join 7 4 1, term 1";
        Script.edge("11: NOT: of a BUNDLE one is", bundle, "dies 0, grant 7 1 = 0, days 1, ! grant 7 1 = NOT, "
            + "grant 6 1 = 1");
        Script.edge("11: a BUNDLE by its WORKS alone", START, "body 6, bundle 5 0, join 6 4 1, term 0, dies 5, "
            + "grant 6 1 = 0");
        String free = RICH + ", term 0, dies 0";
        Script.edge("11: BAD ahead of NOT", free, "! grant 4 0 = BAD, set 3 9, set 4 8, ! grant 4 1 = BAD, set 4 9, "
            + "! grant 4 1 = NOT");
        Script.edge("11: FULL", START, "119* grant 4 1, grant 4 1 = 119, ofGrant 119 0 = 4, ! grant 4 1 = FULL, "
            + "count 3 = 120");
        Script.edge("11: nothing is PAID by FULL", START, "120* grant 4 1, set 7 500, ! grant 4 1 = FULL, ofBody 1 1 = 0, "
            + "count 8 = 0");
        Script.edge("11: BAD ahead of FULL", START, "120* grant 4 1, ! grant 0 1 = BAD, ! grant 4 0 = BAD, set 6 3, "
            + "! grant 4 1 = BAD");
        Script.edge("11: NOT ahead of FULL", START, "120* grant 4 1, term 0, dies 0, ! grant 4 1 = NOT");
        Script.edge("11: ENDED ones are not free again", START, "120* grant 4 1, ends 0 = 1, ! grant 4 1 = FULL, "
            + "count 4 = 119");
    }

    private static void agents() {
        String plain = RICH + ", set 5 -1, set 6 -1";
        Script.edge("11: -1: no AGENT, no SUB", plain, "grant 4 1 = 5, ofGrant 5 7 = -1, ofGrant 5 8 = -1");
        Script.edge("11: an AGENT alone", plain, "set 5 2, grant 4 1 = 5, ofGrant 5 7 = 2, ofGrant 5 8 = -1");
        Script.edge("11: a SUB is under AGENT", plain, "set 5 3, grant 4 1 = 5, ofGrant 5 7 = 3, ofGrant 5 8 = -1");
        Script.edge("11: BAD: no AGENT", plain, "set 5 1, ! grant 4 1 = BAD, set 5 0, ! grant 4 1 = BAD, set 5 8, "
            + "! grant 4 1 = BAD");
        Script.edge("11: BAD: no such AGENT", plain, "set 5 11, ! grant 4 1 = BAD, set 5 149, ! grant 4 1 = BAD");
        Script.edge("11: BAD: a SUB without AGENT", plain, "set 6 3, ! grant 4 1 = BAD, set 5 2, grant 4 1 = 5, "
            + "ofGrant 5 8 = 3");
        Script.edge("11: BAD: no SUB", plain, "set 5 2, set 6 2, ! grant 4 1 = BAD, set 6 1, ! grant 4 1 = BAD, set 6 0, "
            + "! grant 4 1 = BAD");
        Script.edge("11: BAD: no such SUB", plain, "set 5 2, set 6 11, ! grant 4 1 = BAD, set 6 149, ! grant 4 1 = BAD");
    }

    private static String paid(int advance) {
        return START + ", set 5 2, set 6 3, set 7 " + advance + ", grant 4 1 = 0";
    }

    /** The SUB's 10 hundredths and the AGENT's 15 of what is left, each up, and the AUTHOR's rest. */
    private static void parts() {
        int[][] rows = {{0, 0, 0, 0}, {1, 1, 0, 0}, {2, 1, 1, 0}, {10, 1, 2, 7}, {11, 2, 2, 7}, {20, 2, 3, 15},
            {21, 3, 3, 15}, {100, 10, 14, 76}, {101, 11, 14, 76}, {999999, 100000, 135000, 764999}};
        for (int[] row : rows) {
            Script.edge("part 3: of " + row[0], paid(row[0]), "ofBody 3 1 = " + row[1], "ofBody 2 1 = " + row[2],
                "ofBody 0 1 = " + row[3], "ofBody 1 1 = " + -row[0], "count 8 = " + row[0]);
        }
        Script.edge("part 3: the AGENT's part without rest", START, "set 5 2, set 7 100, grant 4 1, ofBody 2 1 = 15, "
            + "ofBody 0 1 = 85");
        Script.edge("part 3: the AGENT's part, up", START, "set 5 2, set 7 101, grant 4 1, ofBody 2 1 = 16, "
            + "ofBody 0 1 = 85");
        Script.edge("part 3: none of them", START, "set 7 101, grant 4 1, ofBody 2 1 = 0, ofBody 0 1 = 101");
    }

    /** AUTHORS 5 to 10 with a WORK each (11 to 16), and BUNDLE 17 of AUTHOR 0. */
    private static final String SIX_AUTHORS = START + ", 6* body 6, work 4 5 0, work 4 6 0, work 4 7 0, work 4 8 0, "
        + "work 4 9 0, work 4 10 0, bundle 0 0";

    private static void bundleParts() {
        String like = SIX_AUTHORS + ", join 17 16 7, join 17 11 7, join 17 12 7, join 17 13 7, join 17 14 7, join 17 15 7";
        Script.edge("part 3: nothing to part", like, "grant 17 1 = 0, ofBody 10 1 = 0, ofBody 5 1 = 0");
        Script.edge("part 3: of like rests the earliest told", like, "set 7 1, grant 17 1, ofBody 10 1 = 1, ofBody 5 1 = 0");
        Script.edge("part 3: what is left is less than the WORKS", like, "set 7 11, grant 17 1, ofBody 10 1 = 2, "
            + "ofBody 5 1 = 2, "
            + "ofBody 8 1 = 2, ofBody 9 1 = 1, ofBody 0 1 = 0");
        Script.edge("part 3: nothing is left", like, "set 7 12, grant 17 1, ofBody 10 1 = 2, ofBody 9 1 = 2");
        String unlike = SIX_AUTHORS + ", join 17 11 1, join 17 12 2";
        Script.edge("part 3: the greatest rest is the later told", unlike, "set 7 1, grant 17 1, ofBody 5 1 = 0, "
            + "ofBody 6 1 = 1");
        Script.edge("part 3: the greatest rest is the earlier told", unlike, "set 7 2, grant 17 1, ofBody 5 1 = 1, "
            + "ofBody 6 1 = 1");
        Script.edge("part 3: a BUNDLE of one WORK", SIX_AUTHORS, "join 17 11 99, set 7 7, grant 17 1, ofBody 5 1 = 7, "
            + "ofBody 0 1 = 0");
        Script.edge("part 3: WORTH 1 and 99", SIX_AUTHORS, "join 17 11 1, join 17 12 99, set 7 999999, grant 17 1, "
            + "ofBody 5 1 = 10000, ofBody 6 1 = 989999");
        Script.edge("part 3: an AUTHOR with two of its WORKS", SIX_AUTHORS, "work 4 5 0, join 17 11 1, join 17 12 1, "
            + "join 17 18 1, "
            + "set 7 10, grant 17 1, ofBody 5 1 = 7, ofBody 6 1 = 3");
        Script.edge("part 3: the SUB and the AGENT ahead of it", unlike, "set 5 2, set 6 3, set 7 11, grant 17 1, "
            + "ofBody 3 1 = 2, "
            + "ofBody 2 1 = 2, ofBody 5 1 = 2, ofBody 6 1 = 5");
    }

    private static void ends() {
        Script.edge("12: no such GRANT", RICH, "! ends -1 = BAD, ! ends 5 = BAD, ! ends MIN = BAD, ! ends MAX = BAD, "
            + "ends 4 = 1");
        Script.edge("12: NOT: it was, on DAY 0", GRANTED, "ends 0 = 1, ofGrant 0 10 = 0, ! ends 0 = NOT, count 4 = 0");
        Script.edge("12: NOT: it was, on DAY 3599", GRANTED, "wait 3599, ends 0 = 1, ofGrant 0 10 = 3599, ! ends 0 = NOT");
        Script.edge("12: NOT: on a later DAY", GRANTED, "ends 0 = 1, days 9, ! ends 0 = NOT, ofGrant 0 10 = 0");
        Script.edge("12: NOT: it LAPSED", GRANTED, "days 1, lapses 0 100000 = 1, ! ends 0 = NOT");
    }

    private static void ofGrant() {
        Script.edge("13: no such GRANT", RICH, "! ofGrant -1 0 = VOID, ! ofGrant 5 0 = VOID, ! ofGrant MIN 0 = VOID, "
            + "ofGrant 4 0 = 4");
        Script.edge("13: GRANTS 0 .. 119", START, "119* grant 4 1, grant 4 2, ofGrant 119 1 = 2, ! ofGrant 120 0 = VOID, "
            + "! ends 120 = BAD, ! holder 4 1000 0 0 = NOT");
        Script.edge("13: what 0 .. 15", RICH, "! ofGrant 0 -1 = VOID, ! ofGrant 0 0 = 4, ! ofGrant 0 15 = 0, "
            + "! ofGrant 0 16 = VOID");
        Script.edge("13: what far off", RICH, "! ofGrant 0 MIN = VOID, ! ofGrant 0 MAX = VOID, ofGrant 0 13 = 2");
        Script.edge("13: not ENDED (-1)", GRANTED, "ofGrant 0 10 = -1, ends 0, ofGrant 0 10 = 0");
        Script.edge("13: PAID, the ADVANCE not counted", START, "set 7 50, grant 4 1, ofGrant 0 14 = 0, state 0 100 0 10, "
            + "pay 0 = 50, "
            + "ofGrant 0 14 = 50");
    }

    private static void where() {
        String last = START + ", set 0 39, set 1 128, set 2 8, grant 4 1";
        Script.edge("14: TONGUE 39, LAND 7, FORM 3", last, "! holder 4 39073 0 0 = 1, ! holder 4 39072 0 0 = NOT");
        Script.edge("14: TONGUE 40", last, "! holder 4 40000 0 0 = BAD, ! holder 4 40073 0 0 = BAD, "
            + "! holder 4 MAX 0 0 = BAD");
        Script.edge("14: LAND 8", last, "! holder 4 39080 0 0 = BAD, ! holder 4 80 0 0 = BAD, holder 4 39070 0 0 = NOT");
        Script.edge("14: LANDS above", last, "! holder 4 100 0 0 = BAD, ! holder 4 39990 0 0 = BAD, "
            + "! holder 4 993 0 0 = BAD");
        Script.edge("14: FORM 4", last, "! holder 4 39074 0 0 = BAD, ! holder 4 4 0 0 = BAD, ! holder 4 9 0 0 = BAD");
        Script.edge("14: TONGUE 0, LAND 0, FORM 0", GRANTED, "! holder 4 0 0 0 = 1, ! holder 4 -1 0 0 = BAD, "
            + "! holder 4 MIN 0 0 = BAD");
        Script.edge("14: below 0 by all", GRANTED, "! holder 4 -1000 0 0 = BAD, ! holder 4 -10 0 0 = BAD, "
            + "holder 4 1000 0 0 = NOT");
        Script.edge("14: no such WORK", GRANTED, "! holder -1 0 0 0 = BAD, ! holder 5 0 0 0 = BAD, "
            + "! holder MIN 0 0 0 = BAD");
        Script.edge("14: WORKS alone", RICH, "! holder 0 0 0 0 = BAD, ! holder 1 0 0 0 = BAD, holder 5 0 0 0 = 2, "
            + "holder 6 0 0 0 = 2");
        Script.edge("14: DAYS", GRANTED, "! holder 4 0 -1 0 = BAD, ! holder 4 0 3600 0 = BAD, ! holder 4 0 MAX 0 = BAD, "
            + "holder 4 0 3599 0 = 1");
        Script.edge("14: k", GRANTED, "! holder 4 0 0 -1 = BAD, ! holder 4 0 0 3600 = BAD, ! holder 4 0 0 MIN = BAD, "
            + "holder 4 0 0 3599 = 1");
        Script.edge("14: BAD ahead of NOT", START, "! holder 4 4 0 0 = BAD, ! holder 4 0 -1 0 = BAD, "
            + "! holder 4 0 0 0 = NOT");
    }

    private static void holds() {
        String days = START + ", days 10, set 3 5, set 4 20, grant 4 1";
        Script.edge("part 2: its first DAY", days, "holder 4 0 4 10 = NOT, holder 4 0 5 10 = 1");
        Script.edge("part 2: its last DAY", days, "holder 4 0 20 10 = 1, holder 4 0 21 10 = NOT");
        Script.edge("part 2: made on k or ahead", days, "holder 4 0 12 9 = NOT, holder 4 0 12 10 = 1, holder 4 0 12 11 = 1");
        String ended = days + ", days 5, ends 0";
        Script.edge("part 2: ENDED on e is KNOWN from e on", ended, "holder 4 0 15 14 = 1, holder 4 0 15 15 = NOT, "
            + "holder 4 0 15 16 = NOT");
        Script.edge("part 2: it holds on DAYS ahead of e", ended, "holder 4 0 14 15 = 1, holder 4 0 15 15 = NOT, "
            + "holder 4 0 16 15 = NOT");
        Script.edge("part 2: not KNOWN, it holds behind e", ended, "holder 4 0 20 14 = 1, holder 4 0 20 15 = NOT");
        Script.edge("part 2: ENDED on DAY 0", GRANTED, "ends 0, holder 4 0 0 0 = NOT, holder 4 0 9 0 = NOT, "
            + "holder 4 0 9 3599 = NOT");
        Script.edge("part 2: ENDED ahead of its first DAY", START, "set 3 5, grant 4 1, days 4, ends 0, "
            + "holder 4 0 5 4 = NOT, holder 4 0 5 3 = 1");
        Script.edge("part 2: HOLDER by the least number", START, "grant 4 2, grant 4 1, holder 4 0 0 0 = 2, ends 0, "
            + "holder 4 0 0 0 = 1");
        Script.edge("part 2: a GRANT of a BUNDLE is one of its WORKS", RICH, "holder 6 0 0 0 = 2, holder 7 0 0 0 = NOT, "
            + "holder 10 0 0 0 = NOT");
    }

    private static String two(int from, int to) {
        return START + ", set 3 10, set 4 20, grant 4 1, set 4 " + to + ", set 3 " + from + ", grant 4 2";
    }

    private static void overlap() {
        Script.edge("15: no such WORK", RICH, "! overlap -1 0 = BAD, ! overlap 11 0 = BAD, ! overlap MIN 0 = BAD, "
            + "! overlap MAX 0 = BAD");
        Script.edge("15: WORKS alone", RICH, "! overlap 0 0 = BAD, ! overlap 1 0 = BAD, ! overlap 8 0 = BAD, "
            + "overlap 4 0 = 0");
        Script.edge("15: what 0 .. 2", RICH, "! overlap 4 -1 = BAD, ! overlap 4 0 = 0, ! overlap 4 2 = 0, "
            + "! overlap 4 3 = BAD");
        Script.edge("15: what far off", RICH, "! overlap 4 MIN = BAD, ! overlap 4 MAX = BAD, overlap 4 1 = 1");
        Script.edge("15: NOT: no GRANT, one GRANT", START, "! overlap 4 0 = NOT, grant 4 1, ! overlap 4 0 = NOT");
        Script.edge("15: the last DAY of the one", two(20, 30), "overlap 4 0 = 0, overlap 4 1 = 1, overlap 4 2 = 20");
        Script.edge("15: a DAY behind it", two(21, 30), "overlap 4 0 = NOT, overlap 4 1 = NOT, overlap 4 2 = NOT");
        Script.edge("15: the first DAY of the one", two(0, 10), "overlap 4 2 = 10");
        Script.edge("15: a DAY ahead of it", two(0, 9), "overlap 4 2 = NOT");
        Script.edge("15: within the one", two(13, 14), "overlap 4 2 = 13");
        Script.edge("15: as they hold: ENDED on its first DAY", two(13, 20), "days 13, ends 0, overlap 4 0 = NOT");
        Script.edge("15: as they hold: ENDED a DAY later", two(13, 20), "days 14, ends 0, overlap 4 0 = 0, "
            + "overlap 4 2 = 13");
        Script.edge("15: as they hold: the other ENDED", two(13, 20), "days 13, ends 1, overlap 4 0 = NOT");
        Script.edge("15: ENDED on DAY 0", GRANTED, "grant 4 1, overlap 4 2 = 0, ends 0, overlap 4 2 = NOT");
        Script.edge("15: DAY 3599", START, "set 3 3599, 2* grant 4 1, overlap 4 2 = 3599");
        String sides = START + ", grant 4 1, set 1 2, grant 4 1, set 1 3";
        Script.edge("15: the lesser number first", sides, "grant 4 1, overlap 4 0 = 0, overlap 4 1 = 2");
        Script.edge("15: the lesser ENDED", sides, "grant 4 1, ends 0, overlap 4 0 = 1, overlap 4 1 = 2");
        Script.edge("15: of two greater the first", GRANTED, "grant 4 1, grant 4 1, overlap 4 0 = 0, overlap 4 1 = 1");
        Script.edge("15: LAND 7 and FORM 3", START, "set 1 129, set 2 8, grant 4 1, set 1 128, grant 4 1, overlap 4 1 = 1");
        Script.edge("15: a LAND, but no FORM", START, "set 1 255, set 2 7, grant 4 1, set 2 8, grant 4 1, "
            + "overlap 4 1 = NOT");
        Script.edge("15: a FORM, but no LAND", START, "set 2 15, set 1 127, grant 4 1, set 1 128, grant 4 1, "
            + "overlap 4 1 = NOT");
        Script.edge("15: another TONGUE", GRANTED, "set 0 1, grant 4 1, overlap 4 1 = NOT");
        Script.edge("15: the last two of 120", START, "work 4 0 0, 118* grant 5 1, 2* grant 4 1, overlap 4 0 = 118, "
            + "overlap 4 1 = 119");
        Script.edge("15: GRANTS of another WORK", GRANTED, "work 4 0 0, grant 5 1, overlap 4 0 = NOT, overlap 5 0 = NOT");
        Script.edge("15: BUNDLES with it", RICH, "overlap 6 0 = NOT, grant 6 1, overlap 6 0 = 1, overlap 6 1 = 5, "
            + "overlap 5 0 = NOT");
    }

    private static void holes() {
        Script.edge("16: 0: no such WORK", RICH, "! holes -1 0 0 = 0, ! holes 11 0 0 = 0, ! holes MIN 0 0 = 0, "
            + "! holes 0 0 0 = 0, ! holes 8 0 0 = 0");
        Script.edge("16: 0: TONGUES", RICH, "! holes 7 -1 0 = 0, ! holes 7 0 0 = -1, ! holes 7 39 0 = -1, "
            + "! holes 7 40 0 = 0, ! holes 7 MAX 0 = 0");
        Script.edge("16: 0: DAYS", RICH, "! holes 7 1 -1 = 0, ! holes 7 1 0 = -1, ! holes 7 1 3599 = -1, "
            + "! holes 7 1 3600 = 0, ! holes 7 1 MIN = 0");
        Script.edge("16: LAND 0 and FORM 0", GRANTED, "! holes 4 0 0 = -2");
        Script.edge("16: LAND 0 and FORM 3", START, "set 2 8, grant 4 1, holes 4 0 0 = -9");
        Script.edge("16: LAND 7 and FORM 0", START, "set 1 128, grant 4 1, holes 4 0 0 = -268435457");
        Script.edge("16: LAND 7 and FORM 3", START, "set 1 128, set 2 8, grant 4 1, holes 4 0 0 = MAX");
        Script.edge("16: all pairs are held", ALL_HELD, "! holes 4 0 0 = 0, holes 4 1 0 = -1");
        Script.edge("16: AS KNOWN TODAY", ALL_HELD, "days 5, holes 4 0 4 = 0, ends 0, holes 4 0 4 = 0, holes 4 0 5 = -1, "
            + "holes 4 0 6 = -1");
        Script.edge("16: AS KNOWN TODAY, on a DAY ahead", START, "days 5, grant 4 1, holes 4 0 4 = -2, holes 4 0 0 = -2");
        Script.edge("16: its DAYS", START, "set 3 5, set 4 9, grant 4 1, holes 4 0 4 = -1, holes 4 0 5 = -2, "
            + "holes 4 0 9 = -2, holes 4 0 10 = -1");
    }

    private static void offer() {
        Script.edge("17: BAD: no bits", RICH, "! offer 0 1 = BAD, offer 1 1 = 3");
        Script.edge("17: all 32 bits", RICH, "offer -1 1 = 3, offer MIN 1 = 4, offer MAX 1 = 5");
        Script.edge("17: coins 1 at least", RICH, "! offer 1 0 = BAD, ! offer 1 -1 = BAD, ! offer 1 MIN = BAD, "
            + "offer 1 1 = 3");
        Script.edge("17: coins 99999 at most", RICH, "! offer 1 100000 = BAD, ! offer 1 MAX = BAD, offer 1 99999 = 3");
        Script.edge("17: FULL: 10", RICH, "7* offer 1 1, offer 1 1 = 10, ! offer 1 1 = FULL, ! offer 1 1 = FULL");
        Script.edge("17: BAD ahead of FULL", RICH, "8* offer 1 1, ! offer 0 1 = BAD, ! offer 1 0 = BAD");
    }

    private static void best() {
        Script.edge("18: BEST: perhaps none", ONE_HELD, "offer 1 9, offer 3 99999, cover 4 0 0 0 = 0, "
            + "! cover 4 0 0 0 = BAD, offer 2 1 = 1");
        Script.edge("18: BEST: none with a pair that is no HOLE", ONE_HELD, "offer -1 99999, offer -2 1, cover 4 0 0 0 = 2");
        Script.edge("18: BEST: none with a pair that another one has", ONE_HELD, "offer 6 5, offer 12 5, offer 24 5, "
            + "cover 4 0 0 0 = 5");
        Script.edge("18: BEST: one is more than two", ONE_HELD, "offer 2 5, offer 4 5, offer 6 11, cover 4 0 0 0 = 4");
        Script.edge("18: BEST: of several the most pairs", ONE_HELD, "offer 2 10, offer 6 10, offer 14 10, "
            + "cover 4 0 0 0 = 4");
        Script.edge("18: BEST: the most pairs of two", ONE_HELD, "offer 6 10, offer 2 5, offer 12 5, cover 4 0 0 0 = 6");
        Script.edge("18: BEST: of several the least as bits", ONE_HELD, "offer 6 10, offer 2 5, offer 4 5, "
            + "cover 4 0 0 0 = 1");
        Script.edge("18: BEST: LAND 7 and FORM 3", ONE_HELD, "offer MIN 1, offer 2 1, cover 4 0 0 0 = 3");
        String ten = "offer 2 1, offer 4 1, offer 8 1, offer 16 1, offer 32 1, offer 64 1, offer 128 1, offer 256 1, "
            + "offer 512 1";
        Script.edge("18: BEST: of all ten", ONE_HELD, ten, "offer MIN 99999, cover 4 0 0 0 = 1023, ! cover 4 0 0 0 = BAD");
        Script.edge("18: BEST: the tenth alone", ONE_HELD, ten, "offer -2 99999, cover 4 0 0 0 = 512");
        Script.edge("18: BEST: no HOLES", ALL_HELD, "offer 1 1, cover 4 0 0 0 = 0, ! cover 4 0 0 0 = BAD");
        String five = START + ", days 5, set 3 4, set 4 6, grant 4 1, offer 1 9, offer 2 9";
        Script.edge("18: BEST on a DAY: the HOLES of that DAY", five, "cover 4 0 3 0 = 3, offer 1 9, cover 4 0 4 0 = 0");
        Script.edge("18: COVER on a DAY: the HOLES of that DAY", five, "offer -4 9, cover 4 0 6 1 = 6, offer -2 9, "
            + "! cover 4 0 7 1 = NOT");
        Script.edge("18: BEST: a single coin", ONE_HELD, "offer 2 1, cover 4 0 0 0 = 1");
    }

    private static void cover() {
        Script.edge("18: BAD: none is told", GRANTED, "! cover 4 0 0 0 = BAD, ! cover 4 0 0 1 = BAD");
        Script.edge("18: BAD: no such WORK", RICH, "! cover -1 0 0 0 = BAD, ! cover 11 0 0 0 = BAD, ! cover 0 0 0 1 = BAD, "
            + "! cover MAX 0 0 1 = BAD");
        Script.edge("18: BAD: TONGUES", RICH, "! cover 4 -1 0 0 = BAD, ! cover 4 40 0 0 = BAD, ! cover 4 MIN 0 1 = BAD, "
            + "cover 4 39 0 0 = 3");
        Script.edge("18: BAD: DAYS", RICH, "! cover 4 1 -1 0 = BAD, ! cover 4 1 3600 0 = BAD, ! cover 4 1 MAX 1 = BAD, "
            + "cover 4 1 3599 0 = 3");
        Script.edge("18: BAD: what", RICH, "! cover 4 0 0 -1 = BAD, ! cover 4 0 0 2 = BAD, ! cover 4 0 0 MIN = BAD, "
            + "cover 4 0 0 0 = 3");
        Script.edge("18: NOT: OFFERS stay", RICH, "! cover 4 0 0 1 = NOT, offer -2 1 = 3, cover 4 0 0 1 = 4, "
            + "! cover 4 0 0 1 = BAD");
        Script.edge("18: NOT by one pair", ONE_HELD, "offer -4 1, ! cover 4 0 0 1 = NOT, offer 2 1, cover 4 0 0 1 = 3");
        Script.edge("18: COVER: they may have others", ONE_HELD, "offer -1 1, cover 4 0 0 1 = 1");
        Script.edge("18: COVER: and share some", ONE_HELD, "offer 65535 1, offer -256 1, cover 4 0 0 1 = 3");
        Script.edge("18: COVER: the fewest, whatever the coins", ONE_HELD, "offer 65534 99999, offer -65536 99999, "
            + "offer -2 1, cover 4 0 0 1 = 4");
        Script.edge("18: COVER: of several the greatest sum", ONE_HELD, "offer -2 4, offer -1 5, offer -2 3, "
            + "cover 4 0 0 1 = 2");
        Script.edge("18: COVER: then the least as bits", ONE_HELD, "offer -2 4, offer -1 5, offer -2 5, cover 4 0 0 1 = 2");
        Script.edge("18: COVER: no HOLES need none", ALL_HELD, "offer 1 1, cover 4 0 0 1 = 0, ! cover 4 0 0 1 = BAD, "
            + "offer 1 1 = 1");
        String ten = "offer 15 1, offer 240 1, offer 3840 1, offer 61440 1, offer 983040 1, offer 15728640 1, "
            + "offer 251658240 1";
        Script.edge("18: COVER: of ten all but one", START, ten, "offer 1879048192 1, ! cover 4 0 0 1 = NOT, offer 1 1, "
            + "! cover 4 0 0 1 = NOT, "
            + "offer MIN 1, cover 4 0 0 1 = 767");
    }
}
