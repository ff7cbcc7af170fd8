/** Promises 29 to 32. */
public final class LapsesTest {
    private LapsesTest() {
    }

    public static void main(String[] args) {
        byDays();
        byCopies();
        wrongNumbers();
        lapses();
        pass();
        mustAsk();
        Check.end("LapsesTest");
    }

    private static void byDays() {
        TongueRights t = Check.start();
        t.set(3, 10);
        t.grant(4, 1);
        Check.is("29: NEAR ahead of its first DAY", t.lapse(0, 500000, 1), 15);
        Check.is("29: no WHY ahead of it", t.lapse(0, 500000, 0), 0);
        t.days(14);
        Check.is("29: NEAR", t.lapse(0, 500000, 1), 1);
        Check.is("29: none told, not as yet", t.lapse(0, 500000, 0), 0);
        t.days(1);
        Check.is("29: none told", t.lapse(0, 500000, 0), 1);
        Check.is("29: NEAR 0", t.lapse(0, 500000, 1), 0);
        t.state(0, 5, 0, 10);
        Check.is("29: since the statement", t.lapse(0, 500000, 1), 5);
        t.days(3);
        t.state(0, 4, 4, 10);
        t.state(0, 0, 1, 10);
        Check.is("29: COPIES did not rise", t.lapse(0, 500000, 1), 2);
        t.anew(0, 1, 5, 4);
        Check.is("29: told anew, they rose by it", t.lapse(0, 500000, 1), 5);
        t.days(4);
        t.anew(0, 1, 5, 5);
        Check.is("29: told anew, they did not", t.lapse(0, 500000, 1), 0);
        Check.is("29: the first telling's DAY counts", t.lapse(0, 500000, 0), 1);
        Check.is("29: the most DAYS", t.lapse(0, 360000000, 1), 3593);
    }

    private static void byCopies() {
        TongueRights t = Check.granted();
        t.state(0, 50, 0, 10);
        t.days(359);
        Check.is("29: began too late", t.lapse(0, 100000 * 3600 + 99999, 0), 0);
        t.state(0, 30, 0, 10);
        t.state(0, 0, 20, 10);
        t.state(0, 10, 0, 10);
        t.days(1);
        Check.is("29: of the last 360 DAYS what was added", t.lapse(0, 100000 * 3600 + 41, 0), 2);
        Check.is("29: not less than told", t.lapse(0, 100000 * 3600 + 40, 0), 0);
        t.state(0, 2, 0, 10);
        Check.is("29: TODAY too", t.lapse(0, 100000 * 3600 + 42, 0), 0);
        Check.is("29: TODAY too, less", t.lapse(0, 100000 * 3600 + 43, 0), 2);
        t.days(358);
        Check.is("29: DAY 359 is one of the last 360 as yet", t.lapse(0, 100000 * 3600 + 42, 0), 0);
        t.days(1);
        Check.is("29: it is none now", t.lapse(0, 100000 * 3600 + 3, 0), 2);
        Check.is("29: the first that holds", t.lapse(0, 100000 * 359 + 3, 0), 1);
        t.days(1);
        Check.is("29: less than 0 is none", t.lapse(0, 100000 * 3600, 0), 0);
        Check.is("29: less than 1", t.lapse(0, 100000 * 3600 + 1, 0), 2);
        Check.is("29: by 2, NEAR is of 1", t.lapse(0, 100000 * 361 + 1, 1), 1);
    }

    private static void wrongNumbers() {
        TongueRights t = Check.granted();
        int[] bad = {-1, 0, 99999, 360100000, Integer.MIN_VALUE, Integer.MAX_VALUE};
        for (int v : bad) {
            Check.is("29: " + v, t.lapse(0, v, 0), -1);
            Check.is("30: " + v, t.lapses(0, v), -1);
        }
        Check.is("29: what 2", t.lapse(0, 100000, 2), -1);
        Check.is("29: what below 0", t.lapse(0, 100000, -1), -1);
        Check.is("29: no such", t.lapse(1, 100000, 0), -1);
        Check.is("30: no such", t.lapses(1, 100000), -1);
        Check.is("29: the least and the most", t.lapse(0, 360099999, 0), 0);
        t.ends(0);
        Check.is("29: it ENDED", t.lapse(0, 100000, 1), -2);
        Check.is("29: BAD ahead of NOT", t.lapse(0, 100000, 2), -1);
        Check.is("30: it ENDED", t.lapses(0, 100000), -2);
        Check.is("30: BAD ahead of NOT", t.lapses(0, 0), -1);
    }

    private static void lapses() {
        TongueRights t = Check.granted();
        Check.is("30: WHY is 0", t.lapses(0, 100000), -2);
        Check.is("30: it has not ENDED", t.ofGrant(0, 10), -1);
        t.grant(4, 1);
        t.days(360);
        Check.is("30: by 2", t.lapses(0, 36100001), 2);
        Check.is("30: ENDED TODAY", t.ofGrant(0, 10), 360);
        Check.is("30: it holds up to the DAY ahead", t.holder(4, 0, 359, 360), 1);
        Check.is("30: the other one is left", t.count(4), 1);
        Check.is("30: by 1", t.lapses(1, 36000000), 1);
        Check.is("30: none holds TODAY", t.holder(4, 0, 360, 360), -2);
    }

    private static void pass() {
        TongueRights t = Check.granted();
        Check.is("31: it has no OPTION", t.pass(0), -2);
        t.set(9, 1);
        t.grant(4, 1);
        Check.is("31: passes", t.pass(1), 1);
        Check.is("31: it did", t.pass(1), -2);
        Check.is("31: no such", t.pass(2), -1);
        Check.is("31: below 0", t.pass(-1), -1);
    }

    private static void mustAsk() {
        TongueRights t = Check.start();
        t.bundle(0, 0);
        t.join(5, 4, 1);
        t.work(7, 0, 0);
        t.work(4, 0, 100);
        t.set(9, 5);
        t.grant(4, 1);
        t.grant(5, 1);
        t.grant(6, 1);
        t.grant(7, 1);
        t.set(0, 1);
        t.grant(4, 1);
        t.set(0, 0);
        t.set(4, 99);
        t.grant(4, 1);
        t.set(4, 100);
        t.set(9, 0);
        t.grant(4, 1);
        t.set(9, 1);
        t.grant(4, 1);
        Check.is("32: on the first DAY", t.mustAsk(7, 0, 100, -1), 4);
        int[] due = {0, 1, 2, 7};
        for (int i = 0; i < due.length; i++) {
            Check.is("32: by numbers", t.mustAsk(7, 0, 100, i), due[i]);
        }
        Check.is("32: no more", t.mustAsk(7, 0, 100, 4), -1);
        Check.is("32: i below -1", t.mustAsk(7, 0, 100, -2), -1);
        Check.is("32: ahead of it", t.mustAsk(7, 0, 99, -1), 0);
        Check.is("32: the next DAY", t.mustAsk(7, 0, 101, -1), 3);
        Check.is("32: the last DAY", t.mustAsk(7, 0, 104, -1), 3);
        Check.is("32: behind it", t.mustAsk(7, 0, 105, -1), 0);
        Check.is("32: another TONGUE", t.mustAsk(7, 1, 100, 0), 4);
        Check.is("32: a WORK that is not NEXT", t.mustAsk(4, 0, 0, -1), 0);
        t.pass(0);
        t.days(100);
        t.ends(2);
        Check.is("32: passed, and ENDED by that DAY", t.mustAsk(7, 0, 100, 0), 1);
        Check.is("32: how many then", t.mustAsk(7, 0, 100, -1), 2);
        t.days(1);
        t.ends(1);
        Check.is("32: it held on that DAY", t.mustAsk(7, 0, 101, -1), 1);
        Check.is("32: no WORK", t.mustAsk(1, 0, 0, -1), -1);
        Check.is("32: tongue 40", t.mustAsk(7, 40, 0, -1), -1);
        Check.is("32: tongue below 0", t.mustAsk(7, -1, 0, -1), -1);
        Check.is("32: day 3600", t.mustAsk(7, 0, 3600, -1), -1);
        Check.is("32: day below 0", t.mustAsk(7, 0, -1, -1), -1);
    }
}
