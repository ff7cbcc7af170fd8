/** The boundary cases that the document names in part 1 and in promises 1 to 9, each sentence on objects of its own. */
public final class BodyEdgesTest {
    private static final String START = Script.START, RICH = Script.RICH;
    /** BUNDLES 5 and 6 without WORKS, WORKS 7 to 13, FILM 14. */
    private static final String BUNDLES = START + ", 2* bundle 0 0, 7* work 4 0 0, work 7 0 0";
    private static final String SIX = BUNDLES + ", join 5 7 1, join 5 8 1, join 5 9 1, join 5 10 1, join 5 11 1";

    private BodyEdgesTest() {
    }

    public static void main(String[] args) {
        newObject();
        days();
        body();
        work();
        bundle();
        join();
        dies();
        term();
        ofBody();
        next();
        Check.end("BodyEdgesTest");
    }

    private static void newObject() {
        Script.edge("1: DAY 0", "count 6 = 0");
        Script.edge("1: nobody", "count 0 = 0, count 1 = 0, count 2 = 0, ! ofBody 0 0 = VOID");
        Script.edge("1: no grants", "count 3 = 0, count 4 = 0, ! ofGrant 0 0 = VOID, ! ends 0 = BAD");
        Script.edge("1: no STATEMENTS, nothing PAID, an empty TAPE", "count 5 = 0, count 7 = 0, count 8 = 0");
        Script.edge("part 1: TERM is 9999 at first", "term 9999 = 9999");
        Script.edge("part 6: the BLANK is -1 at first", "blank -1 = -1");
        Script.edge("part 6: SHELVES hold nothing at first", "! cast 0 0 = -11, ! cast 5 0 = -11, ! put 0 0 1 = -11");
        Script.edge("part 6: no act() as yet", "count 9 = 0, ! trace 0 = BAD");
        Script.edge("part 5: no OFFERS, no periods", "unask = 0, ! fewest 0 = BAD, ! wrong 0 = BAD, ! taken 0 0 = BAD");
    }

    private static void days() {
        Script.edge("2: n is 1 at least", RICH, "! days 0 = BAD, ! days -1 = BAD, ! days MIN = BAD, days 1 = 11");
        Script.edge("2: n is 360 at most", RICH, "! days 361 = BAD, ! days MAX = BAD, days 360 = 370");
        Script.edge("2: up to DAY 3599", "wait 3239, days 360 = 3599, ! days 1 = BAD, ! days 360 = BAD, count 6 = 3599");
        Script.edge("2: BAD also beyond 3599", "wait 3240, ! days 360 = BAD, days 359 = 3599");
        Script.edge("2: by one", "wait 3598, ! days 2 = BAD, count 6 = 3598, days 1 = 3599");
    }

    private static void body() {
        Script.edge("3: KIND 0", RICH, "! body -1 = BAD, ! body MIN = BAD, body 0 = 11");
        Script.edge("3: KINDS 1, 2", "body 1 = 0, body 2 = 1, ofBody 0 0 = 1, ofBody 1 0 = 2");
        Script.edge("3: KIND 3, not 4", RICH, "! body 4 = BAD, body 3 = 11");
        Script.edge("3: KIND 6, not 5, not 7", RICH, "! body 5 = BAD, ! body 7 = BAD, body 6 = 11");
        Script.edge("3: no KIND above 7", RICH, "! body 8 = BAD, ! body MAX = BAD, count 0 = 11");
        Script.edge("3: BODIES 0 .. 149", "body 6 = 0, 148* body 0, body 1 = 149, ofBody 149 0 = 1, ! ofBody 150 0 = VOID");
        Script.edge("3: FULL", "150* body 0, ! body 0 = FULL, ! body 1 = FULL, ! body 6 = FULL, count 0 = 150");
        Script.edge("3: BAD ahead of FULL", "150* body 0, ! body 4 = BAD, ! body -1 = BAD");
    }

    private static void work() {
        Script.edge("4: KIND 4, not 3, not 5", RICH, "! work 3 0 0 = BAD, ! work 5 0 0 = BAD, work 4 0 0 = 11");
        Script.edge("4: KIND 7, not 6, not 8", RICH, "! work 6 0 0 = BAD, ! work 8 0 0 = BAD, work 7 0 0 = 11");
        Script.edge("4: KINDS far off", RICH, "! work MIN 0 0 = BAD, ! work MAX 0 0 = BAD, count 2 = 5");
        Script.edge("4: no such AUTHOR", RICH, "! work 4 -1 0 = BAD, ! work 4 11 0 = BAD, ! work 4 MIN 0 = BAD");
        Script.edge("4: AUTHORS alone", RICH, "! work 4 1 0 = BAD, ! work 4 4 0 = BAD, ! work 4 8 0 = BAD, work 4 9 0 = 11");
        Script.edge("4: DAY 0", RICH, "! work 4 0 -1 = BAD, ! work 4 0 MIN = BAD, work 4 0 0 = 11, ofBody 11 2 = 0");
        Script.edge("4: DAY 3599", RICH, "! work 4 0 3600 = BAD, ! work 4 0 MAX = BAD, work 7 0 3599 = 11, "
            + "ofBody 11 2 = 3599");
        Script.edge("4: FULL", START, "144* body 0, work 4 0 0 = 149, ! work 4 0 0 = FULL, ! work 7 0 0 = FULL");
        Script.edge("4: BAD ahead of FULL", START, "145* body 0, ! work 5 0 0 = BAD, ! work 4 1 0 = BAD, "
            + "! work 4 0 3600 = BAD");
    }

    private static void bundle() {
        Script.edge("5: no such AUTHOR", RICH, "! bundle -1 0 = BAD, ! bundle 11 0 = BAD, ! bundle MAX 0 = BAD");
        Script.edge("5: AUTHORS alone", RICH, "! bundle 1 0 = BAD, ! bundle 5 0 = BAD, bundle 9 0 = 11, ofBody 11 1 = 9");
        Script.edge("5: DAY 0", RICH, "! bundle 0 -1 = BAD, bundle 0 0 = 11, ofBody 11 2 = 0");
        Script.edge("5: DAY 3599", RICH, "! bundle 0 3600 = BAD, bundle 0 3599 = 11, ofBody 11 2 = 3599");
        Script.edge("5: without WORKS as yet", RICH, "bundle 0 0 = 11, ofBody 11 5 = 0, ! grant 11 1 = BAD");
        Script.edge("5: FULL", START, "144* body 0, bundle 0 0 = 149, ! bundle 0 0 = FULL, count 2 = 2");
        Script.edge("5: BAD ahead of FULL", START, "145* body 0, ! bundle 1 0 = BAD, ! bundle 0 3600 = BAD");
    }

    private static void join() {
        Script.edge("6: no such BUNDLE", RICH, "! join -1 7 1 = BAD, ! join 11 7 1 = BAD, ! join MIN 7 1 = BAD");
        Script.edge("6: BUNDLES alone", RICH, "! join 4 7 1 = BAD, ! join 6 7 1 = BAD, ! join 1 7 1 = BAD, join 10 7 1 = 1");
        Script.edge("6: no such WORK", RICH, "! join 10 -1 1 = BAD, ! join 10 11 1 = BAD, ! join 10 MAX 1 = BAD");
        Script.edge("6: WORKS (4, 7), no BUNDLES", BUNDLES, "! join 5 6 1 = BAD, ! join 5 5 1 = BAD, join 5 14 1 = 1");
        Script.edge("6: nobody else", BUNDLES, "! join 5 0 1 = BAD, ! join 5 1 1 = BAD, join 5 7 1 = 1");
        Script.edge("6: WORTH 1 at least", BUNDLES, "! join 5 7 0 = BAD, ! join 5 7 -1 = BAD, ! join 5 7 MIN = BAD, "
            + "join 5 7 1 = 1");
        Script.edge("6: WORTH 99 at most", BUNDLES, "! join 5 7 100 = BAD, ! join 5 7 MAX = BAD, join 5 7 99 = 1");
        Script.edge("6: BAD: it has it", BUNDLES, "join 5 7 1 = 1, join 5 8 1 = 2, ! join 5 7 2 = BAD, ! join 5 8 2 = BAD");
        Script.edge("6: another BUNDLE can have it, too", BUNDLES, "join 5 7 1 = 1, join 6 7 1 = 1");
        Script.edge("6: FULL: 6", SIX, "join 5 14 1 = 6, ! join 5 12 1 = FULL, ofBody 5 5 = 6");
        Script.edge("6: BAD ahead of FULL", SIX, "join 5 14 1 = 6, ! join 5 14 1 = BAD, ! join 5 12 100 = BAD");
        Script.edge("6: NOT: a GRANT was made", SIX, "grant 5 1 = 0, ! join 5 14 1 = NOT, ofBody 5 5 = 5");
        Script.edge("6: NOT, though it ENDED", SIX, "grant 5 1 = 0, ends 0 = 1, ! join 5 14 1 = NOT");
        Script.edge("6: NOT ahead of FULL", SIX, "join 5 14 1 = 6, grant 5 1 = 0, ! join 5 12 1 = NOT");
        Script.edge("6: BAD ahead of NOT", SIX, "grant 5 1 = 0, ! join 5 7 1 = BAD, ! join 5 14 0 = BAD, "
            + "! join 5 6 1 = BAD");
        Script.edge("6: a GRANT that was refused is none", BUNDLES, "! grant 5 1 = BAD, join 5 7 1 = 1");
        Script.edge("6: a GRANT of its WORK is none of it", BUNDLES, "join 5 7 1 = 1, grant 7 1 = 0, join 5 8 1 = 2");
    }

    private static void dies() {
        Script.edge("7: no such AUTHOR", RICH, "! dies -1 = BAD, ! dies 11 = BAD, ! dies MIN = BAD, ! dies MAX = BAD");
        Script.edge("7: AUTHORS alone", RICH, "! dies 1 = BAD, ! dies 4 = BAD, ! dies 8 = BAD, dies 0 = 1");
        Script.edge("7: NOT: it did, on DAY 0", START, "dies 0 = 1, ! dies 0 = NOT");
        Script.edge("7: NOT: it did, on DAY 3599", START, "wait 3599, dies 0 = 1, ! dies 0 = NOT");
        Script.edge("7: once", START, "term 5, dies 0, days 3, ! dies 0 = NOT, days 1, ofBody 4 3 = 0, days 1, "
            + "ofBody 4 3 = 1");
        Script.edge("7: another AUTHOR lives on", RICH, "! dies 9 = NOT, dies 0 = 1");
    }

    private static void term() {
        Script.edge("8: TERM 0 at least", RICH, "! term -1 = BAD, ! term MIN = BAD, term 0 = 700, term 1 = 0");
        Script.edge("8: TERM 9999 at most", RICH, "! term 10000 = BAD, ! term MAX = BAD, term 9999 = 700, term 1 = 9999");
        Script.edge("8: FREE from the DAY on", START, "term 2, dies 0, days 1, ofBody 4 3 = 0, days 1, ofBody 4 3 = 1, "
            + "days 1, ofBody 4 3 = 1, wait 3596, ofBody 4 3 = 1");
        Script.edge("8: TERM 0: FREE on the DAY of death", START, "term 0, ofBody 4 3 = 0, dies 0, ofBody 4 3 = 1");
        Script.edge("8: the last DAY", START, "term 3599, dies 0, wait 3598, ofBody 4 3 = 0, days 1, ofBody 4 3 = 1");
        Script.edge("8: 9999 never comes", START, "dies 0, wait 3599, ofBody 4 3 = 0");
        Script.edge("8: while its AUTHOR lives it is not FREE", START, "term 0, wait 3599, ofBody 4 3 = 0");
        Script.edge("8: told later, it counts at once", START, "dies 0, days 10, term 10, ofBody 4 3 = 1, term 11, "
            + "ofBody 4 3 = 0");
    }

    private static void ofBody() {
        Script.edge("9: no such BODY", RICH, "! ofBody -1 0 = VOID, ! ofBody 11 0 = VOID, ! ofBody MIN 0 = VOID, "
            + "ofBody 10 0 = 5");
        Script.edge("9: what 0 .. 5 of a WORK", RICH, "! ofBody 4 -1 = VOID, ! ofBody 4 0 = 4, ! ofBody 4 5 = 0, "
            + "! ofBody 4 6 = VOID");
        Script.edge("9: what far off", RICH, "! ofBody 4 MIN = VOID, ! ofBody 4 MAX = VOID, ! ofBody 1 MAX = VOID");
        Script.edge("9: what 0, 1 of a HOUSE", RICH, "! ofBody 1 1 = -650, ! ofBody 1 2 = VOID, ! ofBody 1 -1 = VOID");
        Script.edge("9: of an AGENT, a SUB", START, "ofBody 2 1 = 0, ! ofBody 2 2 = VOID, ofBody 3 1 = 0, "
            + "! ofBody 3 5 = VOID");
        Script.edge("9: of an AUTHOR", START, "ofBody 0 1 = 0, ! ofBody 0 2 = VOID, ! ofBody 0 3 = VOID, "
            + "! ofBody 0 4 = VOID");
        Script.edge("9: of a BODY the KIND alone", RICH, "ofBody 8 0 = 0, ! ofBody 8 1 = VOID, ! ofBody 8 2 = VOID");
        Script.edge("9: COINS may fall below 0", START, "set 7 1, ofBody 1 1 = 0, grant 4 1, ofBody 1 1 = -1, "
            + "ofBody 0 1 = 1");
        Script.edge("9: how many WORKS", SIX, "ofBody 5 5 = 5, join 5 14 1, ofBody 5 5 = 6, ofBody 6 5 = 0, "
            + "ofBody 14 5 = 0");
        String two = START + ", body 6, work 4 5 0, bundle 0 0, join 7 6 1, term 1";
        Script.edge("part 2: a BUNDLE is FREE by its WORKS", two, "dies 5, ofBody 7 3 = 0, days 1, ofBody 7 3 = 1, days 9, "
            + "ofBody 7 3 = 1");
        Script.edge("part 2: from the DAY on, by a later death", two, "days 5, dies 5, ofBody 7 3 = 0, days 1, "
            + "ofBody 7 3 = 1");
        Script.edge("part 2: by these alone", two, "dies 0, days 9, ofBody 7 3 = 0, ofBody 4 3 = 1");
        Script.edge("part 2: by one of them", two, "dies 0, join 7 4 1, ofBody 7 3 = 0, days 1, ofBody 7 3 = 1");
        Script.edge("part 2: a BUNDLE without WORKS is not FREE", two, "bundle 5 0, dies 5, days 9, ofBody 8 3 = 0");
    }

    private static void next() {
        Script.edge("part 1: NEXT: none (-1)", START, "ofBody 4 4 = -1, bundle 0 0, work 7 0 0, ofBody 4 4 = -1");
        Script.edge("part 1: NEXT is of KIND 4", START, "work 7 0 0, bundle 0 0, work 4 0 0, ofBody 4 4 = 7");
        Script.edge("part 1: NEXT of a FILM, a BUNDLE", START, "work 7 0 0, bundle 0 0, work 4 0 0, ofBody 5 4 = 7, "
            + "ofBody 6 4 = 7");
        Script.edge("part 1: NEXT has a greater number", START, "work 4 0 0, ofBody 5 4 = -1, ofBody 4 4 = 5");
        Script.edge("part 1: NEXT is the first such", START, "work 4 0 9, work 4 0 0, ofBody 4 4 = 5, ofBody 5 4 = 6");
        Script.edge("part 1: NEXT is of its AUTHOR", START, "body 6, work 4 5 0, ofBody 4 4 = -1, work 4 0 0, "
            + "ofBody 4 4 = 7");
        Script.edge("part 1: NEXT by the last number", START, "144* body 0, work 4 0 0 = 149, ofBody 4 4 = 149, "
            + "ofBody 149 4 = -1");
    }
}
