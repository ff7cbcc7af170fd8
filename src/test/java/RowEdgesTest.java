/** The boundary cases that the document names in part 5 and in promises 33 to 38, each sentence on objects of its own. */
public final class RowEdgesTest {
    private static final String RICH = Script.RICH;

    private RowEdgesTest() {
    }

    public static void main(String[] args) {
        period();
        wrong();
        leastWrong();
        fewest();
        ask();
        taken();
        early();
        late();
        unask();
        Check.end("RowEdgesTest");
    }

    private static void period() {
        Script.edge("33: SAID 0 at least", RICH, "! period -1 0 = BAD, ! period MIN 0 = BAD, period 0 0 = 3");
        Script.edge("33: SAID 999999 at most", RICH, "! period 1000000 0 = BAD, ! period MAX 0 = BAD, period 999999 0 = 3");
        Script.edge("33: SHOPS -1 at least", RICH, "! period 0 -2 = BAD, ! period 0 MIN = BAD, period 0 -1 = 3");
        Script.edge("33: SHOPS 999999 at most", RICH, "! period 0 1000000 = BAD, ! period 0 MAX = BAD, period 0 999999 = 3");
        Script.edge("33: FULL: 12", RICH, "9* period 1 1, period 1 1 = 12, ! period 1 1 = FULL, ! period 0 -1 = FULL");
        Script.edge("33: BAD ahead of FULL", RICH, "10* period 1 1, ! period -1 0 = BAD, ! period 0 -2 = BAD");
        Script.edge("33: none behind wrong()", RICH, "wrong 999999, period 1 1 = 1");
    }

    private static void wrong() {
        Script.edge("34: BAD: no period", "! wrong 0 = BAD, ! wrong 999999 = BAD, ! wrong -1 = BAD");
        Script.edge("34: PRINTED 0 at least", RICH, "! wrong -1 = BAD, ! wrong MIN = BAD, period 1 1 = 3");
        Script.edge("34: PRINTED 999999 at most", RICH, "! wrong 1000000 = BAD, ! wrong MAX = BAD, period 1 1 = 3");
        Script.edge("34: PRINTED 0", "period 0 0, wrong 0 = 0, period 5 -1, wrong 0 = 5");
        Script.edge("34: PRINTED 999999", "period 999999 999999, wrong 999999 = 0, period 999999 -1, period 1 -1, "
            + "wrong 999999 = 1");
        Script.edge("34: SHOPS have all that is PRINTED", "period 3 4, period 0 4, wrong 8 = 5");
        Script.edge("34: NOT: SHOPS have more than PRINTED", "period 3 4, period 0 4, wrong 7 = NOT");
        Script.edge("34: periods are none then", "period 5 5, wrong 5 = 0, ! wrong 5 = BAD, period 5 5 = 1");
        Script.edge("34: by NOT, too", "period 5 5, wrong 4 = NOT, ! wrong 5 = BAD, period 5 5 = 1");
        Script.edge("34: but if BAD", "period 5 5, ! wrong -1 = BAD, period 5 5 = 2, wrong 10 = 0");
    }

    private static void leastWrong() {
        Script.edge("part 5: nothing to change", "period 5 5, period 6 2, wrong 11 = 0, fewest 0 = 0, fewest 1 = 0");
        Script.edge("part 5: one too much", "period 5 5, period 6 2, wrong 10 = 1, fewest 0 = 1, fewest 1 = 0");
        Script.edge("part 5: one too little", "period 5 6, period 6 2, wrong 12 = 1, fewest 0 = 1, fewest 1 = 0");
        Script.edge("part 5: one rises, and all are one too much", "period 5 6, period 6 2, wrong 11 = 2, fewest 0 = 2, "
            + "fewest 1 = 0");
        Script.edge("part 5: missing: 0", "period 5 -1, wrong 0 = 5, fewest 0 = 1, period 0 -1, wrong 0 = 0, fewest 0 = 0");
        Script.edge("part 5: SHOPS 0 are as missing", "period 5 0, wrong 0 = 5, fewest 0 = 1");
        Script.edge("part 5: all twelve fall", "12* period 999999 -1, wrong 0 = 11999988, fewest 0 = 12, fewest 1 = 0");
        Script.edge("part 5: all twelve rise", "12* period 0 83333, wrong 999996 = 999996, fewest 0 = 12, fewest 1 = 0");
        Script.edge("part 5: all twelve, NOT", "12* period 0 83334, wrong 999999 = NOT");
        Script.edge("part 5: the greatest SHOPS", "12* period 999999 999999, wrong 999999 = NOT");
        Script.edge("part 5: rise and fall", "period 0 999999, period 999999 -1, wrong 999999 = 1999998, fewest 0 = 2, "
            + "fewest 1 = 0");
    }

    private static void fewest() {
        Script.edge("35: BAD: before any", "! fewest 0 = BAD, ! fewest 1 = BAD, period 9 9, ! fewest 0 = BAD");
        Script.edge("35: BAD: one that found none", "period 9 9, wrong 8 = NOT, ! fewest 0 = BAD, ! fewest 1 = BAD");
        Script.edge("35: what 0, 1", RICH, "! fewest -1 = BAD, ! fewest 0 = 1, ! fewest 1 = 0, ! fewest 2 = BAD, "
            + "! fewest MIN = BAD, ! fewest MAX = BAD");
        Script.edge("35: by the latest that found one", "period 9 3, period 9 3, wrong 17 = 1, fewest 1 = 1, period 9 9, "
            + "wrong 8 = NOT, "
            + "fewest 0 = 1, fewest 1 = 1, ! wrong 8 = BAD, fewest 1 = 1, period 1 1, wrong 1 = 0, fewest 0 = 0, "
            + "fewest 1 = 0");
        Script.edge("35: each wrong() by its own periods", "period 9 0, period 9 0, wrong 9 = 9, fewest 1 = 1, period 9 0, "
            + "wrong 5 = 4, fewest 1 = 0");
        Script.edge("35: greater ones ahead", "period 50 0, period 60 0, wrong 0 = 110, fewest 0 = 2, period 3 0, "
            + "period 4 0, period 5 0, wrong 4 = 8, "
            + "fewest 0 = 2, fewest 1 = 1");
        Script.edge("35: one does it, by just as much", "period 5 0, period 4 0, wrong 4 = 5, fewest 0 = 1, fewest 1 = 0");
        Script.edge("35: one does not, by one", "period 5 0, period 4 0, wrong 3 = 6, fewest 0 = 2, fewest 1 = 0");
        Script.edge("35: RIVAL, by just as much", "period 5 0, period 4 0, wrong 5 = 4, fewest 0 = 1, fewest 1 = 1");
        Script.edge("35: RIVAL of two", "period 5 0, period 4 0, period 3 0, wrong 4 = 8, fewest 0 = 2, fewest 1 = 1");
        Script.edge("35: no RIVAL of two, by one", "period 5 0, period 4 0, period 3 0, wrong 3 = 9, fewest 0 = 2, "
            + "fewest 1 = 0");
        Script.edge("35: those that must rise are in each set", "period 1 2, period 5 0, period 5 0, wrong 11 = 2, "
            + "fewest 0 = 2, fewest 1 = 1");
        Script.edge("35: by whatever sum", "period 9 0, period 1 0, period 1 0, wrong 9 = 2, fewest 0 = 1, fewest 1 = 0");
        Script.edge("35: one that can't fall is no RIVAL", "period 9 0, period 4 4, wrong 12 = 1, fewest 0 = 1, "
            + "fewest 1 = 0");
        Script.edge("35: eleven of twelve", "12* period 10 0, wrong 10 = 110, fewest 0 = 11, fewest 1 = 1");
    }

    private static void ask() {
        Script.edge("36: coins 1 at least", RICH, "! ask 0 0 0 = BAD, ! ask -1 0 0 = BAD, ! ask MIN 0 0 = BAD, "
            + "ask 1 0 0 = 3");
        Script.edge("36: coins 99999 at most", RICH, "! ask 100000 0 0 = BAD, ! ask MAX 0 0 = BAD, ask 99999 0 0 = 3");
        Script.edge("36: DAY 0", RICH, "! ask 1 -1 0 = BAD, ! ask 1 MIN 0 = BAD, ask 1 0 0 = 3");
        Script.edge("36: DAY 999", RICH, "! ask 1 1000 0 = BAD, ! ask 1 MAX 0 = BAD, ask 1 999 0 = 3");
        Script.edge("36: it waits 0 DAYS", RICH, "! ask 1 0 -1 = BAD, ! ask 1 0 MIN = BAD, ask 1 0 0 = 3");
        Script.edge("36: it waits 99 DAYS", RICH, "! ask 1 0 100 = BAD, ! ask 1 0 MAX = BAD, ask 1 0 99 = 3");
        Script.edge("36: FULL: 8", RICH, "5* ask 1 0 0, ask 1 0 0 = 8, ! ask 1 0 0 = FULL, ! ask 99999 999 99 = FULL");
        Script.edge("36: BAD ahead of FULL", RICH, "6* ask 1 0 0, ! ask 0 0 0 = BAD, ! ask 1 1000 0 = BAD, "
            + "! ask 1 0 100 = BAD");
        Script.edge("36: its last DAY", "ask 5 999 99 = 1, ask 9 999 98 = 2, taken 1098 200 = 0, taken 1097 200 = 1");
    }

    private static void taken() {
        Script.edge("37: BAD: none is told", "! taken 0 0 = BAD, ! taken 1999 200 = BAD");
        Script.edge("37: DAY 0", RICH, "! taken -1 0 = BAD, ! taken MIN 0 = BAD, ! taken 0 0 = 0");
        Script.edge("37: DAY 1999", RICH, "! taken 2000 0 = BAD, ! taken MAX 0 = BAD, ! taken 1999 0 = 0");
        Script.edge("37: a share of 0", RICH, "! taken 0 -1 = BAD, ! taken 0 MIN = BAD, ! taken 0 0 = 0");
        Script.edge("37: a share of 200", RICH, "! taken 0 201 = BAD, ! taken 0 MAX = BAD, ! taken 0 200 = 0");
        Script.edge("37: OFFERS IN ORDER stay", RICH, "! taken 3 50 = 0, ! taken 9 50 = 0, unask = 2");
        Script.edge("37: NOT: none has asked", "ask 9 5 3, ! taken 4 0 = NOT, ! taken 5 0 = 0");
        Script.edge("37: NOT: none waits, none is above", "ask 9 5 3, ask 9 5 3, ! taken 8 0 = 0, ! taken 9 0 = NOT, "
            + "! taken 1999 0 = NOT");
    }

    private static void early() {
        Script.edge("part 5: its last DAY is ahead of d", "ask 50 0 5, ask 10 0 9, taken 5 200 = 0, taken 6 200 = 0, "
            + "ask 60 6 9, taken 5 200 = 0, taken 6 200 = 0");
        Script.edge("part 5: its last DAY is d", "ask 50 0 5, ask 60 5 9, taken 5 0 = 1, taken 6 0 = 1");
        Script.edge("part 5: alone, a single coin", "ask 1 0 0, taken 0 200 = 0, taken 1 200 = 0");
        Script.edge("part 5: more than the share", "ask 151 0 0, ask 100 0 9, taken 1 50 = 0, taken 1 51 = 1");
        Script.edge("part 5: not by as much", "ask 150 0 0, ask 100 0 9, taken 1 49 = 0, taken 1 50 = 1");
        Script.edge("part 5: a share of 0, by one coin", "ask 101 0 0, ask 100 0 9, taken 1 0 = 0, taken 1 1 = 1");
        Script.edge("part 5: a share of 0, like coins", "ask 100 0 0, ask 100 0 9, taken 1 0 = 1");
        Script.edge("part 5: a share of 200", "ask 99999 0 0, ask 33333 0 9, taken 1 199 = 0, taken 1 200 = 1");
        Script.edge("part 5: the greatest coins and share", "ask 99999 0 0, ask 99999 0 9, taken 1 200 = 1, taken 1 0 = 1");
        Script.edge("part 5: others that had asked by its last DAY", "ask 50 0 5, ask 60 6 9, taken 6 0 = 0, "
            + "taken 16 0 = 0");
        Script.edge("part 5: others that asked on its last DAY", "ask 50 0 5, ask 60 5 9, taken 6 0 = 1, taken 15 0 = 1");
        Script.edge("part 5: others though they wait no more", "ask 60 0 1, ask 70 2 3, ask 55 0 99, taken 6 16 = 1, "
            + "taken 6 17 = 2");
        Script.edge("part 5: in order of last DAYS", "ask 50 0 5, ask 40 0 1, ask 9 0 9, ask 30 0 0, taken 10 0 = 0, "
            + "taken 1 0 = 0");
        Script.edge("part 5: the earlier last DAY, though its place is later", "ask 90 5 3, ask 10 0 2, taken 9 0 = 1, "
            + "taken 3 0 = 1, taken 2 0 = 1");
        Script.edge("part 5: of one last DAY just one is above", "ask 40 0 5, ask 90 1 4, taken 6 0 = 1, taken 6 124 = 1, "
            + "taken 6 125 = NOT");
    }

    private static void late() {
        Script.edge("part 5: asked by d", "ask 9 5 3, ask 5 4 9, taken 4 0 = 1, taken 5 0 = 0");
        Script.edge("part 5: the last DAY is d or behind", "ask 9 0 5, ask 5 0 9, taken 5 200 = 0, taken 6 200 = 1");
        Script.edge("part 5: of like ones the lesser place", "ask 8 0 9, ask 9 0 9, ask 9 0 9, taken 3 0 = 1");
        Script.edge("part 5: the last of eight", "7* ask 8 0 9, ask 9 0 9, taken 3 0 = 7, taken 10 0 = 7, taken 10 12 = 7, "
            + "taken 10 13 = NOT");
        Script.edge("part 5: a single coin that waits", "ask 1 3 0, taken 2 0 = NOT, taken 3 200 = 0");
    }

    private static void unask() {
        Script.edge("38: how many there were", RICH, "unask = 2, unask = 0, ! taken 0 0 = BAD, ask 1 0 0 = 1");
        Script.edge("38: all eight", "8* ask 1 0 0, unask = 8, ask 1 0 0 = 1, unask = 1");
        Script.edge("38: none", "! unask = 0");
    }
}
