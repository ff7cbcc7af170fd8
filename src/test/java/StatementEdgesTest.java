/** The boundary cases that the document names in part 3 and in promises 19 to 28, each sentence on objects of its own. */
public final class StatementEdgesTest {
    private static final String START = Script.START, GRANTED = Script.GRANTED;
    private static final String RICH = Script.RICH, ALL_TOLD = Script.ALL_TOLD;
    /** GRANT 0 holds from DAY 5 on; it is DAY 4. SHELF 0 has two threes, SHELF 1 longs, SHELF 2 a BODY. */
    private static final String TOO_EARLY = START + ", set 3 5, grant 4 1, days 4, ints 0 1 0 9 1 0 9, row 1 3 6, keep 2 4";

    private StatementEdgesTest() {
    }

    public static void main(String[] args) {
        feed();
        faults();
        steps();
        rate();
        reckoning();
        state();
        anew();
        rowOf();
        rowOfPlaces();
        rowOfNumbers();
        rowOfFull();
        ofState();
        royalty();
        due();
        sumIsHeld();
        pay();
        Check.end("StatementEdgesTest");
    }

    private static void feed() {
        Script.edge("19: n 1 at least", RICH, "! feed 0 7 = BAD, ! feed -1 7 = BAD, ! feed MIN 7 = BAD, feed 1 48 = 4");
        Script.edge("19: n 4 at most", RICH, "! feed 5 7 = BAD, ! feed MAX 7 = BAD, feed 4 48 = 7");
        Script.edge("19: FULL by one byte", GRANTED, "29* feed 4 48, feed 1 48 = 117, ! feed 4 48 = FULL, count 7 = 117, "
            + "feed 3 48 = 120");
        Script.edge("19: FULL at 120", GRANTED, "30* feed 4 48, count 7 = 120, ! feed 1 48 = FULL, ! feed 4 48 = FULL, "
            + "count 7 = 120");
        Script.edge("19: BAD ahead of FULL", GRANTED, "30* feed 4 48, ! feed 0 48 = BAD, ! feed 5 48 = BAD");
        Script.edge("19: the lowest first, and no more than n", GRANTED, "feed 3 943143472 = 3, steps 0 = 1, "
            + "rate 0 0 1 0 = 7");
        Script.edge("19: all four", GRANTED, "feed 4 943143472 = 4, steps 0 = 1, rate 0 0 1 0 = 78");
        Script.edge("19: bytes above 127", GRANTED, "tape 0:1, feed 1 -1 = 4, steps 0 = -103");
        Script.edge("19: the byte 0", GRANTED, "tape 0:1, feed 1 256 = 4, steps 0 = -103");
    }

    private static void fault(String text, int place) {
        String tape = text.isEmpty() ? "" : ", tape " + text;
        Script.edge("part 3: FAULT of " + text, GRANTED + tape, "steps 0 = " + (-100 - place), "count 7 = 0, "
            + "rate 0 0 50 0 = 10");
    }

    private static void taken(String text, int steps, int firstValue) {
        Script.edge("part 3: no FAULT in " + text, GRANTED, "tape " + text, "steps 0 = " + steps, "count 7 = 0",
            "rate 0 0 50 0 = " + firstValue);
    }

    private static void faults() {
        fault("", 0);
        String[] endTooEarly = {"0", "000000", "0:", "0:1+", "0:1*", "0:(", "0:(1", "0:((1)", "0:1;",
            "0:1;2", "0:1;2:", "0:1;2:3-"};
        for (String text : endTooEarly) {
            fault(text, text.length());
        }
        taken("0:1", 1, 1);
        taken("000000:12", 1, 12);
        fault("0000000:1", 6);
        fault("0000001:1", 6);
        fault("1:1", 0);
        fault("000001:1", 0);
        fault("1", 0);
        fault("9x", 0);
        fault("100000", 0);
        fault(":1", 0);
        taken("0:1;1:2", 2, 1);
        taken("0:1;999999:2", 2, 1);
        fault("0:1;0:2", 4);
        fault("0:1;000000:2", 4);
        fault("0:1;0", 4);
        fault("0:1;0000001:2", 4);
        fault("0:1;1000000:2", 10);
        fault("0:1;12:2;12:3", 9);
        fault("0:1;12:2;11:3", 9);
        fault("0:1;12:2;1", 9);
        fault("0:1;12:2;0000013:3", 9);
        fault("0:1;12:2;0000130:3", 15);
        fault("0:1;999999:2;999999:3", 13);
        taken("0:1;12:2;13:3", 3, 1);
        taken("0:0099", 1, 99);
        fault("0:00099", 6);
        fault("0:1+10000", 8);
        taken("0:((((((9))))))", 1, 9);
        fault("0:(((((((9)))))))", 8);
        taken("0:((((((1))))))+((((((2))))))", 1, 3);
        fault("0:((((((1))))))+(((((((2)))))))", 22);
        fault("0:((((((1+(2)))))))", 10);
        fault("0:(1))", 5);
        fault("0:)", 2);
        fault("0:()", 3);
        fault("0:-1", 2);
        fault("0:1--1", 4);
        fault("0:q", 2);
        fault("0:1y", 3);
        fault("0:yy", 3);
        fault("0:1;;", 4);
        fault("0:1;x", 4);
        fault("0:1:", 3);
        fault("0;", 1);
        lengths();
    }

    /** A TEXT of all 120 bytes, one that ends too early there, and as many STEPS as go into it. */
    private static void lengths() {
        taken("0:11" + "+1".repeat(58), 1, 69);
        fault("0:1" + "+1".repeat(58) + "+", 120);
        StringBuilder text = new StringBuilder("0:1");
        for (int n = 1; n < 26; n++) {
            text.append(';').append(n).append(":1");
        }
        taken(text.toString(), 26, 1);
    }

    private static void steps() {
        Script.edge("20: BAD, THE TAPE stays", RICH, "! steps -1 = BAD, ! steps 5 = BAD, ! steps MIN = BAD, "
            + "! steps MAX = BAD, count 7 = 3, "
            + "steps 4 = 1, rate 4 0 1 0 = 7");
        Script.edge("20: NOT, THE TAPE stays", RICH, "! steps 0 = NOT, ! steps 1 = NOT, count 7 = 3, steps 2 = 1, "
            + "rate 2 0 1 0 = 7");
        Script.edge("20: a statement of another GRANT", RICH, "ofGrant 0 13 = 2, ofGrant 4 13 = 0, steps 4 = 1");
        Script.edge("20: an empty TAPE", GRANTED, "steps 0 = -100, ! steps 1 = BAD, steps 0 = -100");
        Script.edge("20: an empty TAPE, NOT ahead of the FAULT", GRANTED, "state 0 0 0 1, ! steps 0 = NOT");
        Script.edge("20: in place of what it has", RICH, "rate 4 10 1 0 = 7, steps 4 = 1, tape 0:8, steps 4 = 1, "
            + "rate 4 10 1 0 = 8");
        Script.edge("20: a FAULT leaves what it has", RICH, "feed 1 58, steps 4 = -103, count 7 = 0, rate 4 9 1 0 = 5, "
            + "rate 4 10 1 0 = 7");
        Script.edge("20: THE TAPE is empty then", GRANTED, "tape 0:8, steps 0 = 1, count 7 = 0, steps 0 = -100, "
            + "rate 0 0 1 0 = 8");
    }

    private static void rate() {
        Script.edge("21: no such GRANT", RICH, "! rate -1 0 1 0 = BAD, ! rate 5 0 1 0 = BAD, ! rate MIN 0 1 0 = BAD, "
            + "rate 4 0 1 0 = 5");
        Script.edge("21: n 0 at least", RICH, "! rate 4 -1 1 0 = BAD, ! rate 4 MIN 1 0 = BAD, ! rate 4 0 1 0 = 5");
        Script.edge("21: n 999999 at most", RICH, "! rate 4 1000000 1 0 = BAD, ! rate 4 MAX 1 0 = BAD, "
            + "! rate 4 999999 1 0 = 7");
        Script.edge("21: price 1 at least", GRANTED, "tape 0:p, steps 0, ! rate 0 0 0 0 = BAD, ! rate 0 0 MIN 0 = BAD, "
            + "! rate 0 0 1 0 = 1");
        Script.edge("21: price 9999 at most", GRANTED, "tape 0:p-9900, steps 0, ! rate 0 0 10000 0 = BAD, "
            + "! rate 0 0 MAX 0 = BAD, "
            + "! rate 0 0 9999 0 = 99");
        Script.edge("21: DAY 0", GRANTED, "tape 0:y, steps 0, ! rate 0 0 1 -1 = BAD, ! rate 0 0 1 MIN = BAD, "
            + "! rate 0 0 1 0 = 0");
        Script.edge("21: DAY 3599", GRANTED, "tape 0:y, steps 0, ! rate 0 0 1 3600 = BAD, ! rate 0 0 1 MAX = BAD, "
            + "! rate 0 0 1 3599 = 9");
        Script.edge("21: without a TEXT 10", GRANTED, "! rate 0 0 1 0 = 10, ! rate 0 999999 9999 3599 = 10");
        String three = GRANTED + ", tape 0:1;10:2;999999:3, steps 0 = 3";
        Script.edge("21: from copy N on", three, "rate 0 9 1 0 = 1, rate 0 10 1 0 = 2, rate 0 11 1 0 = 2");
        Script.edge("21: from copy 999999 on", three, "rate 0 999998 1 0 = 2, rate 0 999999 1 0 = 3");
        String late = START + ", set 3 100, grant 4 1, tape 0:y+5, steps 0 = 1";
        Script.edge("21: YEARS of 360 DAYS", late, "rate 0 0 1 100 = 5, rate 0 0 1 459 = 5, rate 0 0 1 460 = 6, "
            + "rate 0 0 1 819 = 6, "
            + "rate 0 0 1 820 = 7, rate 0 0 1 3599 = 14");
        Script.edge("21: ahead of its first DAY no YEAR has gone by", late, "rate 0 0 1 99 = 5, rate 0 0 1 0 = 5");
    }

    private static void value(String text, int due) {
        Script.edge("part 3: " + text, GRANTED, "tape 0:" + text, "steps 0 = 1", "rate 0 0 9 0 = " + due);
    }

    private static void reckoning() {
        value("0", 0);
        value("0-1", 0);
        value("1-1", 0);
        value("100", 100);
        value("101", 100);
        value("9999", 100);
        value("0-9999", 0);
        value("(0-5)*(0-9)", 45);
        value("(200+1)-150", 51);
        value("8192*8192*32", 0);
        value("8192*8192*32-1", 100);
        value("8192*8192*64+7", 7);
        value("8192*8192*31+8192*8192-1", 100);
        value("8192*8192*32/(0-1)", 0);
        value("8192*8192*32/(0-1)-1", 100);
        value("7+5/0", 7);
        value("7+0/0", 7);
        value("7+5/(3-3)*9", 7);
        value("10+(0-7)/2", 7);
        value("10+7/(0-2)", 7);
        value("10+(0-7)/(0-2)", 13);
        value("7/8", 0);
        value("50-20-10", 20);
        value("50-(20-10)", 40);
        value("90/9*2", 20);
        value("90/(9*2)", 5);
        value("2+3*4", 14);
        value("8/4+3", 5);
        value("8/4-1", 1);
        value("(8/4+3)*2", 10);
        value("20-8/4", 18);
        value("9-(8-3)*1", 4);
        value("p", 9);
        int[][] names = {{1, 1, 0, 1}, {128, 8, 3, 1}, {255, 15, 0, 8}, {254, 14, 1, 7}, {3, 12, 2, 2}};
        for (int[] row : names) {
            String made = START + ", set 1 " + row[0] + ", set 2 " + row[1] + ", grant 4 1";
            Script.edge("part 3: f by FORMS " + row[1], made, "tape 0:f, steps 0 = 1, rate 0 0 1 0 = " + row[2]);
            Script.edge("part 3: l by LANDS " + row[0], made, "tape 0:l, steps 0 = 1, rate 0 0 1 0 = " + row[3]);
        }
    }

    private static void state() {
        Script.edge("22: no such GRANT", RICH, "! state -1 1 0 1 = BAD, ! state 5 1 0 1 = BAD, ! state MIN 1 0 1 = BAD, "
            + "state 4 1 0 1 = 1");
        Script.edge("22: SOLD 0 at least", RICH, "! state 0 -1 0 1 = BAD, ! state 0 MIN 0 1 = BAD, state 0 0 0 1 = 3");
        Script.edge("22: SOLD 99999 at most", RICH, "! state 0 100000 0 1 = BAD, ! state 0 MAX 0 1 = BAD, "
            + "state 0 99999 0 1 = 3");
        Script.edge("22: BACK 0 at least", RICH, "! state 0 0 -1 1 = BAD, ! state 0 0 MIN 1 = BAD, state 0 0 0 1 = 3");
        Script.edge("22: BACK 99999 at most", RICH, "! state 0 0 100000 1 = BAD, ! state 0 0 MAX 1 = BAD, "
            + "state 0 0 99999 1 = 3");
        Script.edge("22: price 1 at least", RICH, "! state 0 0 0 0 = BAD, ! state 0 0 0 MIN = BAD, state 0 0 0 1 = 3");
        Script.edge("22: price 9999 at most", RICH, "! state 0 0 0 10000 = BAD, ! state 0 0 0 MAX = BAD, "
            + "state 0 0 0 9999 = 3");
        Script.edge("22: NOT: TODAY is ahead of its first DAY", TOO_EARLY, "! state 0 1 0 1 = NOT, days 1, "
            + "state 0 1 0 1 = 1");
        Script.edge("22: behind its last DAY, too", START, "set 4 0, grant 4 1, days 9, state 0 1 0 1 = 1");
        Script.edge("22: BAD ahead of NOT", TOO_EARLY, "! state 0 -1 0 1 = BAD, ! state 0 1 100000 1 = BAD, "
            + "! state 0 1 0 0 = BAD");
        Script.edge("22: 400 in all", GRANTED, "grant 4 1, row 0 2 60, blank 0, 19* rowOf 0 0 0 20, rowOf 1 0 0 19 = 19, "
            + "state 1 1 0 1 = 20, "
            + "! state 1 1 0 1 = FULL, ! state 0 1 0 1 = FULL, count 5 = 400");
        Script.edge("22: BAD ahead of FULL", ALL_TOLD, "! state 0 -1 0 1 = BAD, ! state 0 0 0 0 = BAD, "
            + "! state 1 0 0 1 = BAD");
        Script.edge("22: NOT ahead of FULL", ALL_TOLD, "set 3 1, grant 4 1 = 1, ! state 1 1 0 1 = NOT, "
            + "! state 0 1 0 1 = FULL");
    }

    private static void anew() {
        Script.edge("23: no such GRANT", RICH, "! anew -1 0 1 1 = BAD, ! anew 5 0 1 1 = BAD, ! anew MIN 0 1 1 = BAD, "
            + "anew 1 0 1 1 = 1");
        Script.edge("23: no such STATEMENT", RICH, "! anew 0 -1 1 1 = BAD, ! anew 0 2 1 1 = BAD, ! anew 0 MIN 1 1 = BAD, "
            + "! anew 0 MAX 1 1 = BAD, "
            + "anew 0 1 1 1 = 1, ! anew 4 0 1 1 = BAD");
        Script.edge("23: SOLD", RICH, "! anew 0 0 -1 0 = BAD, ! anew 0 0 100000 0 = BAD, ! anew 0 0 MAX 0 = BAD, "
            + "anew 0 0 99999 0 = 1, anew 0 0 0 0 = 1");
        Script.edge("23: BACK", RICH, "! anew 0 0 0 -1 = BAD, ! anew 0 0 0 100000 = BAD, ! anew 0 0 0 MIN = BAD, "
            + "anew 0 0 0 99999 = 1, anew 0 0 0 0 = 1");
        String told = GRANTED + ", state 0 1 0 10, state 0 2 0 10";
        Script.edge("23: KNOWN from that DAY on", told, "days 2, anew 0 0 9 3 = 1, ofState 0 0 1 0 = 1, "
            + "ofState 0 0 2 0 = 9, ofState 0 0 3 0 = 9, "
            + "ofState 0 0 1 1 = 0, ofState 0 0 2 1 = 3, ofState 0 0 3599 1 = 3");
        Script.edge("23: SOLD and BACK alone", told, "days 2, anew 0 0 9 3 = 1, ofState 0 0 2 2 = 10, ofState 0 1 2 0 = 2, "
            + "ofGrant 0 13 = 2");
        Script.edge("23: as it was told last", told, "anew 0 1 5 0, days 1, anew 0 1 6 0, anew 0 1 7 0, "
            + "ofState 0 1 0 0 = 5, ofState 0 1 1 0 = 7");
        Script.edge("23: FULL: 200 such tellings", told, "199* anew 0 0 5 0, anew 0 1 6 0 = 1, ! anew 0 0 7 0 = FULL, "
            + "! anew 0 1 7 0 = FULL, "
            + "ofState 0 1 0 0 = 6");
        Script.edge("23: BAD ahead of FULL", told, "200* anew 0 0 5 0, ! anew 0 2 7 0 = BAD, ! anew 0 0 -1 0 = BAD, "
            + "! anew 1 0 7 0 = BAD");
    }

    private static void rowOf() {
        String rows = RICH + ", row 0 2 60, blank 0";
        Script.edge("24: no such GRANT", rows, "! rowOf -1 0 0 1 = BAD, ! rowOf 5 0 0 1 = BAD, ! rowOf MIN 0 0 1 = BAD, "
            + "rowOf 4 0 0 1 = 1");
        Script.edge("24: SHELVES 0 .. 5", rows, "! rowOf 0 -1 0 1 = BAD, ! rowOf 0 6 0 1 = BAD, ! rowOf 0 MAX 0 1 = BAD, "
            + "ints 5 1 0 9, rowOf 0 5 0 1 = 1");
        Script.edge("24: n 1 at least", rows, "! rowOf 0 0 0 0 = BAD, ! rowOf 0 0 0 -1 = BAD, ! rowOf 0 0 0 MIN = BAD, "
            + "rowOf 0 0 0 1 = 1");
        Script.edge("24: n 20 at most", rows, "! rowOf 0 0 0 21 = BAD, ! rowOf 0 0 0 MAX = BAD, rowOf 0 0 0 20 = 20, "
            + "ofGrant 0 15 = 0");
        Script.edge("24: NOT as of state()", TOO_EARLY, "! rowOf 0 0 0 1 = NOT, ! rowOf 0 3 0 1 = NOT, days 1, "
            + "rowOf 0 0 0 1 = 1");
        Script.edge("24: BAD ahead of NOT", TOO_EARLY, "! rowOf 0 6 0 1 = BAD, ! rowOf 0 0 0 21 = BAD, "
            + "! rowOf 1 0 0 1 = BAD");
        Script.edge("24: NOT ahead of -12", TOO_EARLY, "! rowOf 0 1 0 1 = NOT, ! rowOf 0 2 0 1 = NOT");
        Script.edge("24: -12: a BODY", RICH, "! rowOf 0 0 0 1 = -12, ! rowOf 0 3 -1 1 = -12");
        for (int sort : new int[] {0, 1, 3, 4}) {
            Script.edge("24: -12: a ROW of sort " + sort, RICH, "blank 0, row 5 " + sort + " 60", "! rowOf 0 5 0 1 = -12, "
            + "! rowOf 0 5 -1 1 = -12");
        }
        Script.edge("24: BAD ahead of -12", RICH, "! rowOf 0 0 0 21 = BAD, ! rowOf 5 0 0 1 = BAD");
        Script.edge("24: -12 though it is FULL", ALL_TOLD, "keep 1 4, ! rowOf 0 1 0 1 = -12, row 2 3 3, "
            + "! rowOf 0 2 0 1 = -12");
    }

    private static void rowOfPlaces() {
        String six = GRANTED + ", ints 0 1 0 9 2 0 9";
        Script.edge("24: the first three", six, "rowOf 0 0 0 1 = 1, ofState 0 0 0 0 = 1, ofGrant 0 15 = 0");
        Script.edge("24: the last three", six, "rowOf 0 0 3 1 = 1, ofState 0 0 0 0 = 2, ofGrant 0 15 = 0");
        Script.edge("24: up to its end", six, "rowOf 0 0 0 2 = 2, ofGrant 0 15 = 0, ofGrant 0 13 = 2");
        Script.edge("24: beyond its end", six, "rowOf 0 0 0 3 = 2, ofGrant 0 15 = 1, ofGrant 0 13 = 2");
        for (String place : new String[] {"-1", "-3", "MIN", "4", "5", "6", "7", "60", "MAX"}) {
            Script.edge("24: from place " + place, six, "rowOf 0 0 " + place + " 20 = 0", "ofGrant 0 15 = 1, "
            + "ofGrant 0 13 = 0, count 5 = 0");
        }
        String five = GRANTED + ", blank 0, row 0 2 5, row 1 2 4, row 2 2 2, row 3 2 0";
        Script.edge("24: it ends within a three, by one", five, "rowOf 0 0 0 2 = 1, ofGrant 0 15 = 1, ofGrant 0 13 = 1");
        Script.edge("24: it ends within a three, by two", five, "rowOf 0 1 0 2 = 1, ofGrant 0 15 = 1");
        Script.edge("24: it ends within its first three", five, "rowOf 0 2 0 1 = 0, ofGrant 0 15 = 1");
        Script.edge("24: a ROW of no elements", five, "rowOf 0 3 0 1 = 0, ofGrant 0 15 = 1");
        Script.edge("24: a SHELF that holds nothing is missing", five, "rowOf 0 4 0 1 = 0, ofGrant 0 15 = 1, count 5 = 0");
        Script.edge("24: DOUBT till a later row comes whole", six, "rowOf 0 0 0 3 = 2, state 0 1 0 1, ofGrant 0 15 = 1, "
            + "rowOf 0 0 3 2 = 1, "
            + "ofGrant 0 15 = 1, rowOf 0 0 3 1 = 1, ofGrant 0 15 = 0");
        Script.edge("24: DOUBT of one GRANT alone", six, "grant 4 1, rowOf 1 0 6 1 = 0, ofGrant 1 15 = 1, "
            + "ofGrant 0 15 = 0, rowOf 0 0 0 1 = 1, "
            + "ofGrant 1 15 = 1");
        Script.edge("24: a refused row leaves DOUBT", six, "rowOf 0 0 6 1 = 0, ! rowOf 0 0 0 21 = BAD, keep 1 4, "
            + "! rowOf 0 1 0 1 = -12, ofGrant 0 15 = 1");
    }

    private static void three(String numbers, boolean comes) {
        Script.edge("24: " + numbers, GRANTED, "blank -7, ints 0 " + numbers, "rowOf 0 0 0 1 = " + (comes ? 1 : 0),
            "ofGrant 0 15 = " + (comes ? 0 : 1), "ofGrant 0 13 = " + (comes ? 1 : 0));
    }

    private static void rowOfNumbers() {
        three("0 0 1", true);
        three("-1 0 1", false);
        three("0 -1 1", false);
        three("0 0 0", false);
        three("99999 99999 9999", true);
        three("100000 0 1", false);
        three("0 100000 1", false);
        three("0 0 10000", false);
        three("MIN 0 1", false);
        three("0 0 MAX", false);
        String blanks = GRANTED + ", ints 0 -1 -1 -1 5 -1 20 -1 3 -1";
        Script.edge("part 6: the BLANK is SOLD 0, BACK 0", blanks, "rowOf 0 0 0 1 = 1, ofState 0 0 0 0 = 0, "
            + "ofState 0 0 0 1 = 0");
        Script.edge("part 6: the BLANK is the price 10 without a statement ahead", blanks, "rowOf 0 0 0 1 = 1, "
            + "ofState 0 0 0 2 = 10");
        Script.edge("part 6: the price of the statement ahead", blanks, "rowOf 0 0 0 3 = 3, ofState 0 1 0 1 = 0, "
            + "ofState 0 2 0 0 = 0, ofState 0 2 0 2 = 20");
        Script.edge("part 6: one told by state()", blanks, "state 0 1 0 9999, rowOf 0 0 0 1 = 1, ofState 0 1 0 2 = 9999");
        Script.edge("part 6: not one of another GRANT", blanks, "grant 4 1, state 1 1 0 77, rowOf 0 0 0 1 = 1, "
            + "ofState 0 0 0 2 = 10");
        Script.edge("part 6: what came ahead stays", GRANTED, "ints 0 1 0 9 1 0 0 1 0 9, rowOf 0 0 0 3 = 1, "
            + "ofGrant 0 13 = 1, ofGrant 0 15 = 1");
        Script.edge("25: any BLANK", GRANTED, "blank MIN = -1, blank MAX = MIN, blank 0 = MAX, blank -1 = 0");
        Script.edge("25: the least int as BLANK", GRANTED, "blank MIN, ints 0 MIN 4 MIN -1 0 9, rowOf 0 0 0 2 = 1, "
            + "ofState 0 0 0 2 = 10");
        Script.edge("25: the BLANK is also a number else", GRANTED, "blank 5, ints 0 5 6 7 6 5 5, rowOf 0 0 0 2 = 2, "
            + "ofState 0 0 0 0 = 0, "
            + "ofState 0 1 0 0 = 6, ofState 0 1 0 1 = 0, ofState 0 1 0 2 = 7");
        Script.edge("25: of state() it says nothing", GRANTED, "blank 5, state 0 5 5 5 = 1, ofState 0 0 0 0 = 5, "
            + "ofState 0 0 0 2 = 5");
    }

    private static void rowOfFull() {
        String nearly = GRANTED + ", grant 4 1, row 0 2 60, blank 0, 19* rowOf 0 0 0 20, rowOf 1 0 0 17";
        Script.edge("24: FULL ends it", nearly, "rowOf 1 0 0 20 = 3, count 5 = 400, ofGrant 1 15 = 0");
        Script.edge("24: it comes whole ahead of FULL", nearly, "rowOf 1 0 58 1 = 0, rowOf 1 0 0 3 = 3, ofGrant 1 15 = 0");
        Script.edge("24: FULL: DOUBT stays 1", nearly, "rowOf 1 0 58 1 = 0, rowOf 1 0 0 4 = 3, ofGrant 1 15 = 1");
        Script.edge("24: FULL from the first on", nearly, "rowOf 1 0 0 3 = 3, ! rowOf 1 0 0 1 = 0, ofGrant 1 15 = 0");
        Script.edge("24: FULL is asked first", nearly, "rowOf 1 0 0 3 = 3, ! rowOf 1 0 -1 1 = 0, ! rowOf 1 3 0 1 = 0, "
            + "! rowOf 1 0 60 1 = 0, ofGrant 1 15 = 0");
        Script.edge("24: FULL is asked ahead of the row's end", nearly, "rowOf 1 0 51 20 = 3, ofGrant 1 15 = 0");
        Script.edge("24: the row's end ahead of FULL", nearly, "rowOf 1 0 54 20 = 2, ofGrant 1 15 = 1, count 5 = 399");
    }

    private static void ofState() {
        Script.edge("26: no such GRANT", RICH, "! ofState -1 0 10 0 = VOID, ! ofState 5 0 10 0 = VOID, "
            + "! ofState MIN 0 10 0 = VOID, ! ofState 0 0 10 0 = 40");
        Script.edge("26: no such STATEMENT", RICH, "! ofState 0 -1 10 0 = VOID, ! ofState 0 2 10 0 = VOID, "
            + "! ofState 0 MAX 10 0 = VOID, "
            + "! ofState 0 1 10 0 = 10, ! ofState 4 0 10 0 = VOID");
        Script.edge("26: k", RICH, "! ofState 0 0 -1 0 = VOID, ! ofState 0 0 3600 0 = VOID, ! ofState 0 0 MIN 0 = VOID, "
            + "! ofState 0 0 3599 0 = 40");
        Script.edge("26: VOID: it was told later", RICH, "! ofState 0 0 3 0 = VOID, ! ofState 0 0 4 0 = 50, "
            + "! ofState 0 1 9 0 = VOID, ! ofState 0 1 10 0 = 10");
        Script.edge("26: what 0 .. 4", RICH, "! ofState 0 0 10 -1 = VOID, ! ofState 0 0 10 5 = VOID, "
            + "! ofState 0 0 10 MIN = VOID, ! ofState 0 0 10 4 = 360");
        Script.edge("26: COPIES 0 at least", GRANTED, "state 0 20 50 99, state 0 29 0 99, state 0 1 0 99, state 0 1 0 99, "
            + "ofState 0 0 0 3 = 0, "
            + "ofState 0 1 0 3 = 0, ofState 0 2 0 3 = 0, ofState 0 3 0 3 = 1");
        Script.edge("26: COPIES by tellings as they are KNOWN", GRANTED, "state 0 9 0 1, state 0 5 0 1, days 1, "
            + "anew 0 0 0 7, ofState 0 1 0 3 = 14, "
            + "ofState 0 1 1 3 = 0, ofState 0 0 1 3 = 0");
        Script.edge("26: more COPIES than an N can be", GRANTED, "tape 0:0;999999:100, steps 0 = 2, 11* state 0 99999 0 1, "
            + "ofState 0 9 0 3 = 999990, "
            + "ofState 0 10 0 3 = 1099989, ofState 0 9 0 4 = 0, ofState 0 10 0 4 = 99990");
    }

    private static void royalty() {
        String two = GRANTED + ", tape 0:10;100:50, steps 0 = 2";
        Script.edge("part 3: up to a STEP", two, "state 0 99 0 10, ofState 0 0 0 4 = 99, state 0 1 0 10, "
            + "ofState 0 1 0 4 = 1");
        Script.edge("part 3: from a STEP on", two, "state 0 100 0 10, ofState 0 0 0 4 = 100, state 0 1 0 10, "
            + "ofState 0 1 0 4 = 5");
        Script.edge("part 3: over a STEP", two, "state 0 99 0 10, state 0 2 0 10, ofState 0 1 0 4 = 6");
        Script.edge("part 3: they fall to a STEP", two, "state 0 101 0 10, state 0 0 1 10, ofState 0 1 0 4 = -5, "
            + "state 0 0 1 10, ofState 0 2 0 4 = -1");
        Script.edge("part 3: they fall over a STEP to 0", two, "state 0 101 0 10, state 0 0 101 10, ofState 0 1 0 3 = 0, "
            + "ofState 0 1 0 4 = -105");
        Script.edge("part 3: they fall below 0", two, "state 0 101 0 10, state 0 0 999 10, ofState 0 1 0 4 = -105, "
            + "state 0 898 0 10, ofState 0 2 0 4 = 0");
        Script.edge("part 3: they stay", two, "state 0 5 5 10, ofState 0 0 0 4 = 0, state 0 0 0 10, ofState 0 1 0 4 = 0");
        Script.edge("part 3: cut by STEP", two, "state 0 101 0 19, ofState 0 0 0 4 = 199, state 0 0 2 19, "
            + "ofState 0 1 0 4 = -10");
        Script.edge("part 3: less than a coin", GRANTED, "state 0 1 0 9, ofState 0 0 0 4 = 0, state 0 0 1 9, "
            + "ofState 0 1 0 4 = 0, state 0 1 0 10, ofState 0 2 0 4 = 1");
        Script.edge("part 3: by its own price", two, "state 0 10 0 10, state 0 0 10 30, ofState 0 1 0 4 = -30");
        String years = GRANTED + ", tape 0:10+y, steps 0 = 1";
        Script.edge("part 3: y of its first telling", years, "days 359, state 0 100 0 100, days 1, state 0 100 0 100, "
            + "anew 0 0 200 0, "
            + "ofState 0 0 360 4 = 2000, ofState 0 1 360 4 = 1100");
        Script.edge("part 3: the greatest and the least", GRANTED, "tape 0:100, steps 0, state 0 99999 0 9999, "
            + "state 0 0 99999 9999, "
            + "ofState 0 0 0 4 = 999890001, ofState 0 1 0 4 = -999890001");
    }

    private static void due() {
        Script.edge("27: no such GRANT", RICH, "! due -1 10 0 = VOID, ! due 5 10 0 = VOID, ! due MIN 10 0 = VOID, "
            + "! due 0 10 0 = 450");
        Script.edge("27: k", RICH, "! due 0 -1 0 = VOID, ! due 0 3600 0 = VOID, ! due 0 MAX 0 = VOID, ! due 0 0 0 = 0, "
            + "! due 0 3599 0 = 450");
        Script.edge("27: what 0 .. 3", RICH, "! due 0 10 -1 = VOID, ! due 0 10 4 = VOID, ! due 0 10 MIN = VOID, "
            + "! due 0 10 3 = 0");
        Script.edge("27: none told by k", RICH, "due 0 3 0 = 0, due 0 3 1 = 0, due 0 3 2 = 0, due 0 3 3 = 0, "
            + "due 0 4 0 = 450");
        String advance = START + ", set 7 100, grant 4 1";
        Script.edge("27: DUE 0 at least", advance, "state 0 99 0 10, due 0 0 0 = 99, due 0 0 1 = 0, state 0 1 0 10, "
            + "due 0 0 1 = 0, state 0 1 0 10, due 0 0 1 = 1");
        Script.edge("27: DUE of a SUM below 0", GRANTED, "state 0 10 0 10, state 0 0 10 90, due 0 0 0 = -80, "
            + "due 0 0 1 = 0, due 0 0 3 = 0");
        Script.edge("27: HOLD 0", GRANTED, "state 0 10 0 10, due 0 0 2 = 0, due 0 0 3 = 10");
        Script.edge("27: HELD, up", START, "set 8 1, grant 4 1, state 0 100 0 10, due 0 0 2 = 1, state 0 101 0 10, "
            + "due 0 0 2 = 2");
        Script.edge("27: HOLD 50", START, "set 8 50, grant 4 1, state 0 10 0 10, due 0 0 2 = 5, due 0 0 3 = 5, "
            + "state 0 11 0 10, due 0 0 2 = 6, due 0 0 3 = 15");
        Script.edge("27: HELD, if above 0", START, "set 8 50, grant 4 1, state 0 10 0 10, state 0 0 0 10, due 0 0 2 = 0, "
            + "state 0 0 5 10, due 0 0 2 = 0");
        Script.edge("27: HELD of the last statement AS KNOWN", START, "set 8 50, grant 4 1, state 0 10 0 10, days 1, "
            + "state 0 4 0 10, due 0 0 2 = 5, due 0 1 2 = 2");
        Script.edge("27: PAYABLE: DUE less HELD, 0 at least", START, "set 7 95, set 8 5, grant 4 1, state 0 100 0 10, "
            + "due 0 0 1 = 5, due 0 0 2 = 5, due 0 0 3 = 0");
        Script.edge("27: HELD more than DUE", START, "set 7 96, set 8 5, grant 4 1, state 0 100 0 10, due 0 0 1 = 4, "
            + "due 0 0 2 = 5, due 0 0 3 = 0");
        Script.edge("27: PAYABLE: less what was PAID, 0 at least", GRANTED, "state 0 10 0 10, pay 0 = 10, due 0 0 3 = 0, "
            + "state 0 0 1 10, due 0 0 1 = 9, "
            + "due 0 0 3 = 0, state 0 2 0 10, due 0 0 3 = 1");
        Script.edge("27: the greatest HELD", START, "set 8 50, grant 4 1, tape 0:100, steps 0, state 0 99999 0 9999, "
            + "due 0 0 2 = 499945001, due 0 0 3 = 499945000");
    }

    private static void sumIsHeld() {
        String all = GRANTED + ", tape 0:100, steps 0";
        String most = all + ", 2* state 0 99999 0 9999, 2* state 0 99999 0 1, state 0 19998 0 1";
        Script.edge("27: SUM 1999999998", most, "due 0 0 0 = 1999999998, due 0 0 1 = 1999999998, due 0 0 3 = 1999999998");
        Script.edge("27: SUM 1999999999 at most", most, "state 0 1 0 1, due 0 0 0 = 1999999999, state 0 1 0 1, "
            + "due 0 0 0 = 1999999999");
        Script.edge("27: held as it is told, not as it is added up", most, "state 0 3 0 1, due 0 0 0 = 1999999999, "
            + "state 0 0 3 1, due 0 0 0 = 1999999998");
        String least = all + ", 2* state 0 99999 0 1, state 0 42 0 1, 2* state 0 0 99999 9999, "
            + "state 0 0 42 9999, state 0 1 0 1";
        Script.edge("27: SUM -1999999998", least, "state 0 0 1 79, due 0 0 0 = -1999999998");
        Script.edge("27: SUM -1999999999 at least", least, "state 0 0 1 80, due 0 0 0 = -1999999999, state 0 1 0 1, "
            + "state 0 0 1 9, due 0 0 0 = -1999999999");
        Script.edge("27: DUE of the least SUM", least, "state 0 0 1 9999, due 0 0 0 = -1999999999, due 0 0 1 = 0, "
            + "due 0 0 3 = 0");
        Script.edge("27: SUM of many", START, "set 7 999999, grant 4 1, tape 0:100, steps 0, 200* state 0 99999 0 9999, "
            + "due 0 0 0 = 1999999999, due 0 0 1 = 1999000000");
    }

    private static void pay() {
        Script.edge("28: no such GRANT", RICH, "! pay -1 = BAD, ! pay 5 = BAD, ! pay MIN = BAD, ! pay MAX = BAD");
        Script.edge("28: nothing PAYABLE", RICH, "! pay 0 = 0, ! pay 4 = 0, ofGrant 0 14 = 350");
        Script.edge("28: AS KNOWN TODAY", GRANTED, "state 0 10 0 10, days 1, anew 0 0 20 0, pay 0 = 20, ! pay 0 = 0, "
            + "ofBody 1 1 = -20, count 8 = 20");
        Script.edge("28: one coin", START, "set 5 2, set 6 3, grant 4 1, state 0 1 0 10, pay 0 = 1, ofBody 3 1 = 1, "
            + "ofBody 2 1 = 0, ofBody 0 1 = 0, ofBody 1 1 = -1");
        Script.edge("28: an ENDED one, too", GRANTED, "state 0 10 0 10, ends 0, pay 0 = 10");
        String most = START + ", 2* grant 4 1, tape 0:100, steps 0, tape 0:100, steps 1, "
            + "3* state 0 99999 0 9999, 3* state 1 99999 0 9999";
        Script.edge("28: all of it", most, "pay 0 = 1999999999, ofGrant 0 14 = 1999999999, ofBody 1 1 = -1999999999, "
            + "ofBody 0 1 = 1999999999, "
            + "! pay 0 = 0, count 8 = 1999999999");
        Script.edge("28: COINS are ints that wrap", most, "pay 0, pay 1 = 1999999999, ofBody 1 1 = 294967298, "
            + "ofBody 0 1 = -294967298, count 8 = -294967298");
        Script.edge("28: the greatest parts", most, "set 5 2, set 6 3, grant 4 1, tape 0:100, steps 2, "
            + "3* state 2 99999 0 9999, pay 2 = 1999999999, "
            + "ofBody 3 1 = 200000000, ofBody 2 1 = 270000000, ofBody 0 1 = 1529999999");
        Script.edge("28: the greatest, by WORTH", most, "body 6, work 4 5 0, bundle 0 0, join 7 4 99, join 7 6 98, "
            + "grant 7 1 = 2, tape 0:100, steps 2, "
            + "3* state 2 99999 0 9999, pay 2 = 1999999999, ofBody 0 1 = 1005076142, ofBody 5 1 = 994923857");
    }
}
