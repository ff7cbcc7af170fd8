/** Promises 33 to 38. */
public final class RowsAndOffersTest {
    private RowsAndOffersTest() {
    }

    public static void main(String[] args) {
        period();
        wrong();
        fewest();
        ask();
        taken();
        Check.end("RowsAndOffersTest");
    }

    private static void period() {
        TongueRights t = new TongueRights();
        Check.is("33: said below 0", t.period(-1, 0), -1);
        Check.is("33: said 1000000", t.period(1000000, 0), -1);
        Check.is("33: shops below -1", t.period(0, -2), -1);
        Check.is("33: shops 1000000", t.period(0, 1000000), -1);
        for (int i = 1; i <= 12; i++) {
            Check.is("33: how many", t.period(i % 2 * 999999, -1), i);
        }
        Check.is("33: full", t.period(0, 0), -3);
        Check.is("33: BAD ahead of FULL", t.period(0, -2), -1);
        Check.is("34: all too much", t.wrong(0), 6 * 999999);
        Check.is("35: six fell", t.fewest(0), 6);
    }

    private static int wrong(int printed, int[] periods, int changed, int rival) {
        TongueRights t = new TongueRights();
        for (int i = 0; i < periods.length; i += 2) {
            t.period(periods[i], periods[i + 1]);
        }
        int least = t.wrong(printed);
        Check.is("35: FEWEST", t.fewest(0), changed);
        Check.is("35: RIVAL", t.fewest(1), rival);
        Check.is("34: periods are none then", t.wrong(printed), -1);
        return least;
    }

    private static void wrong() {
        TongueRights t = new TongueRights();
        Check.is("34: no period", t.wrong(5), -1);
        t.period(3, 4);
        Check.is("34: below 0", t.wrong(-1), -1);
        Check.is("34: 1000000", t.wrong(1000000), -1);
        Check.is("34: periods stay", t.period(0, 4), 2);
        Check.is("34: SHOPS have more", t.wrong(7), -2);
        Check.is("34: periods are none by NOT, too", t.wrong(7), -1);
        Check.is("34: nothing wrong", wrong(30, new int[] {10, 10, 20, -1}, 0, 0), 0);
        Check.is("34: just SHOPS", wrong(30, new int[] {10, 12, 15, 15}, 1, 0), 2);
        Check.is("34: SHOPS have all that was PRINTED", wrong(5, new int[] {0, 5, 9, -1}, 2, 0), 14);
        Check.is("34: one must fall", wrong(25, new int[] {10, 3, 20, -1}, 1, 1), 5);
        Check.is("34: just one can", wrong(22, new int[] {10, 3, 20, -1}, 1, 0), 8);
        Check.is("34: both must", wrong(9, new int[] {10, 3, 20, -1}, 2, 0), 21);
        Check.is("34: two of three, one way", wrong(10, new int[] {10, 0, 9, 0, 1, 0}, 1, 0), 10);
        Check.is("34: two of three, two ways", wrong(9, new int[] {10, 0, 10, 0, 9, 0}, 2, 0), 20);
        Check.is("34: two of three, three ways", wrong(10, new int[] {10, 0, 10, 0, 9, 0}, 2, 1), 19);
    }

    private static void fewest() {
        TongueRights t = new TongueRights();
        Check.is("35: before any", t.fewest(0), -1);
        t.period(9, 9);
        t.wrong(8);
        Check.is("35: NOT found none", t.fewest(0), -1);
        t.period(9, 3);
        t.wrong(8);
        Check.is("35: found one", t.fewest(0), 1);
        t.period(9, 9);
        t.wrong(8);
        Check.is("35: the latest that found one", t.fewest(0), 1);
        Check.is("35: what 2", t.fewest(2), -1);
        Check.is("35: what below 0", t.fewest(-1), -1);
    }

    private static void ask() {
        TongueRights t = new TongueRights();
        Check.is("36: coins 0", t.ask(0, 0, 0), -1);
        Check.is("36: coins 100000", t.ask(100000, 0, 0), -1);
        Check.is("36: day below 0", t.ask(1, -1, 0), -1);
        Check.is("36: day 1000", t.ask(1, 1000, 0), -1);
        Check.is("36: waits below 0", t.ask(1, 0, -1), -1);
        Check.is("36: waits 100", t.ask(1, 0, 100), -1);
        for (int i = 1; i <= 8; i++) {
            Check.is("36: how many", t.ask(99999, 999, 99), i);
        }
        Check.is("36: full", t.ask(1, 0, 0), -3);
        Check.is("36: BAD ahead of FULL", t.ask(0, 0, 0), -1);
        Check.is("37: of like ones the lesser place", t.taken(1098, 200), 0);
        Check.is("37: all lapsed, none above", t.taken(1099, 0), -2);
        Check.is("38: how many there were", t.unask(), 8);
        Check.is("38: none", t.unask(), 0);
        Check.is("37: none is told", t.taken(0, 0), -1);
    }

    private static void taken() {
        TongueRights t = new TongueRights();
        t.ask(100, 10, 5);
        Check.is("37: not asked as yet", t.taken(9, 0), -2);
        Check.is("37: asked", t.taken(10, 0), 0);
        Check.is("37: its last DAY", t.taken(15, 200), 0);
        Check.is("37: alone, it is more than 0", t.taken(16, 200), 0);
        t.ask(50, 15, 10);
        Check.is("37: twice as much is not more by 100", t.taken(16, 100), 1);
        Check.is("37: it is more by 99", t.taken(16, 99), 0);
        t.unask();
        t.ask(50, 0, 9);
        t.ask(100, 0, 5);
        t.ask(60, 6, 3);
        Check.is("37: one that lapsed counts among the others", t.taken(9, 100), 2);
        Check.is("37: the earliest last DAY", t.taken(9, 99), 1);
        t.unask();
        t.ask(10, 0, 5);
        t.ask(90, 3, 2);
        t.ask(20, 0, 2);
        t.ask(500, 6, 0);
        Check.is("37: by last DAYS, ahead of places", t.taken(6, 0), 2);
        Check.is("37: those that asked later do not count", t.taken(6, 100), 1);
        Check.is("37: of one DAY the greatest", t.taken(2, 0), 2);
        Check.is("37: day below 0", t.taken(-1, 0), -1);
        Check.is("37: day 2000", t.taken(2000, 0), -1);
        Check.is("37: the last day", t.taken(1999, 0), 2);
        Check.is("37: share below 0", t.taken(0, -1), -1);
        Check.is("37: share 201", t.taken(0, 201), -1);
        Check.is("37: they stay", t.unask(), 4);
    }
}
