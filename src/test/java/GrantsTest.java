/** Promises 10 to 18. */
public final class GrantsTest {
    private GrantsTest() {
    }

    public static void main(String[] args) {
        set();
        grant();
        parted();
        ends();
        ofGrant();
        holder();
        overlap();
        holes();
        offer();
        best();
        cover();
        Check.end("GrantsTest");
    }

    private static void set() {
        int[] first = {0, 1, 1, 0, 0, -1, -1, 0, 0, 0};
        int[] least = {0, 1, 1, 0, 0, -1, -1, 0, 0, 0};
        int[] most = {39, 255, 15, 3599, 3599, 149, 149, 999999, 50, 720};
        TongueRights t = new TongueRights();
        for (int what = 0; what < 10; what++) {
            Check.is("10: below " + what, t.set(what, least[what] - 1), -1);
            Check.is("10: above " + what, t.set(what, most[what] + 1), -1);
            Check.is("10: first " + what, t.set(what, most[what]), first[what]);
            Check.is("10: most " + what, t.set(what, least[what]), most[what]);
            Check.is("10: least " + what, t.set(what, least[what]), least[what]);
        }
        Check.is("10: what 10", t.set(10, 0), -1);
        Check.is("10: what below 0", t.set(-1, 0), -1);
    }

    private static void grant() {
        TongueRights t = Check.start();
        t.bundle(0, 0);
        Check.is("11: no WORK", t.grant(0, 1), -1);
        Check.is("11: no HOUSE", t.grant(4, 0), -1);
        Check.is("11: nobody", t.grant(4, 99), -1);
        Check.is("11: a BUNDLE without WORKS", t.grant(5, 1), -1);
        t.set(3, 1);
        t.set(4, 0);
        Check.is("11: from above to", t.grant(4, 1), -1);
        t.set(4, 1);
        Check.is("11: one DAY", t.grant(4, 1), 0);
        Check.is("11: to an AGENT", t.grant(4, 2), 1);
        Check.is("11: to a SUB", t.grant(4, 3), 2);
        t.set(6, 3);
        Check.is("11: a SUB without AGENT", t.grant(4, 1), -1);
        t.set(5, 1);
        Check.is("11: a HOUSE is no AGENT", t.grant(4, 1), -1);
        t.set(5, 0);
        Check.is("11: an AUTHOR is no AGENT", t.grant(4, 1), -1);
        t.set(5, 149);
        Check.is("11: nobody as AGENT", t.grant(4, 1), -1);
        t.set(5, 2);
        t.set(6, 2);
        Check.is("11: an AGENT is no SUB", t.grant(4, 1), -1);
        t.set(6, 149);
        Check.is("11: nobody as SUB", t.grant(4, 1), -1);
        t.set(6, -1);
        Check.is("11: an AGENT alone", t.grant(4, 1), 3);
        t.join(5, 4, 1);
        t.dies(0);
        t.term(1);
        Check.is("11: not FREE as yet", t.grant(4, 1), 4);
        t.days(1);
        Check.is("11: FREE", t.grant(4, 1), -2);
        Check.is("11: FREE by one of the BUNDLE", t.grant(5, 1), -2);
        Check.is("11: BAD ahead of NOT", t.grant(4, 0), -1);
        t.term(9999);
        for (int i = 5; i < 120; i++) {
            Check.is("11: more", t.grant(5, 1), i);
        }
        Check.is("11: full", t.grant(4, 1), -3);
        Check.is("11: BAD ahead of FULL", t.grant(4, 0), -1);
        t.term(0);
        Check.is("11: NOT ahead of FULL", t.grant(4, 1), -2);
        Check.is("11: how many", t.count(3), 120);
    }

    private static void parted() {
        TongueRights t = Check.start();
        t.set(7, 101);
        t.set(5, 2);
        t.set(6, 3);
        t.grant(4, 1);
        Check.is("11: the SUB, up", t.ofBody(3, 1), 11);
        Check.is("11: the AGENT, of what is left, up", t.ofBody(2, 1), 14);
        Check.is("11: the AUTHOR, the rest", t.ofBody(0, 1), 76);
        Check.is("11: the HOUSE", t.ofBody(1, 1), -101);
        Check.is("11: the ADVANCE counts", t.count(8), 101);
        t.grant(4, 2);
        Check.is("11: an AGENT that pays itself, too", t.ofBody(2, 1), 14 - 101 + 14);
        partedToSubs();
        partedBundle();
    }

    /** A SUB is under AGENT, and may be told as the AGENT. */
    private static void partedToSubs() {
        TongueRights t = Check.start();
        t.body(3);
        t.set(7, 101);
        t.set(5, 5);
        Check.is("11: a SUB as AGENT", t.grant(4, 1), 0);
        Check.is("11: it is the AGENT", t.ofGrant(0, 7), 5);
        Check.is("11: and no SUB is", t.ofGrant(0, 8), -1);
        Check.is("11: it has an AGENT's part", t.ofBody(5, 1), 16);
        Check.is("11: the AUTHOR has what is left of it", t.ofBody(0, 1), 85);
        t.set(6, 3);
        Check.is("11: a SUB as AGENT, and another as SUB", t.grant(4, 1), 1);
        Check.is("11: the other one has a SUB's part", t.ofBody(3, 1), 11);
        Check.is("11: the one an AGENT's", t.ofBody(5, 1), 16 + 14);
        t.set(6, 5);
        Check.is("11: one SUB as both", t.grant(4, 1), 2);
        Check.is("11: it has both parts", t.ofBody(5, 1), 16 + 14 + 11 + 14);
        Check.is("11: the HOUSE as its own AGENT", t.grant(4, 5), 3);
        Check.is("11: it pays all and has both parts", t.ofBody(5, 1), 55 - 101 + 25);
    }

    private static void partedBundle() {
        TongueRights t = Check.start();
        for (int i = 0; i < 3; i++) {
            t.body(6);
        }
        t.bundle(0, 0);
        for (int i = 0; i < 3; i++) {
            t.work(4, 5 + i, 0);
        }
        t.join(8, 11, 1);
        t.join(8, 9, 1);
        t.join(8, 10, 1);
        t.set(7, 11);
        t.grant(8, 1);
        Check.is("11: of like rests the earlier told, first", t.ofBody(7, 1), 4);
        Check.is("11: of like rests the earlier told, second", t.ofBody(5, 1), 4);
        Check.is("11: of like rests the last told", t.ofBody(6, 1), 3);
        Check.is("11: nothing to the BUNDLE's own AUTHOR", t.ofBody(0, 1), 0);
        t.bundle(0, 0);
        t.join(12, 9, 99);
        t.join(12, 10, 98);
        t.set(7, 999999);
        t.grant(12, 1);
        Check.is("11: by WORTH", t.ofBody(5, 1), 4 + 502538);
        Check.is("11: by WORTH, too", t.ofBody(6, 1), 3 + 497461);
    }

    private static void ends() {
        TongueRights t = Check.granted();
        t.days(9);
        Check.is("12: no such", t.ends(1), -1);
        Check.is("12: below 0", t.ends(-1), -1);
        Check.is("12: ended", t.ends(0), 1);
        Check.is("12: it was", t.ends(0), -2);
        Check.is("12: when", t.ofGrant(0, 10), 9);
        Check.is("12: none left", t.count(4), 0);
    }

    private static void ofGrant() {
        TongueRights t = Check.start();
        int[] told = {7, 200, 9, 1, 90, 2, 3, 500, 25, 60};
        for (int what = 0; what < 10; what++) {
            t.set(what, told[what]);
        }
        t.days(4);
        t.grant(4, 1);
        int[] due = {4, 1, 7, 200, 9, 1, 90, 2, 3, 4, -1, 500, 25, 0, 0, 0};
        for (int what = 0; what < 16; what++) {
            Check.is("13: what " + what, t.ofGrant(0, what), due[what]);
        }
        t.set(0, 8);
        Check.is("13: a GRANT stays as it was made", t.ofGrant(0, 2), 7);
        t.state(0, 1000, 0, 100);
        t.pay(0);
        Check.is("13: STATEMENTS", t.ofGrant(0, 13), 1);
        Check.is("13: PAID without the ADVANCE", t.ofGrant(0, 14), 7000);
        Check.is("13: what 16", t.ofGrant(0, 16), TongueRights.VOID);
        Check.is("13: what below 0", t.ofGrant(0, -1), TongueRights.VOID);
        Check.is("13: no such", t.ofGrant(1, 0), TongueRights.VOID);
        t.set(5, -1);
        t.set(6, -1);
        t.grant(4, 1);
        Check.is("13: no AGENT", t.ofGrant(1, 7), -1);
        Check.is("13: no SUB", t.ofGrant(1, 8), -1);
    }

    private static void holder() {
        TongueRights t = Check.start();
        t.body(1);
        t.days(10);
        t.set(0, 39);
        t.set(1, 128);
        t.set(2, 8);
        t.set(3, 5);
        t.set(4, 20);
        t.grant(4, 5);
        Check.is("14: not known ahead", t.holder(4, 39073, 12, 9), -2);
        Check.is("14: known", t.holder(4, 39073, 12, 10), 5);
        Check.is("14: known later, too", t.holder(4, 39073, 12, 3599), 5);
        Check.is("14: its first DAY", t.holder(4, 39073, 5, 10), 5);
        Check.is("14: ahead of it", t.holder(4, 39073, 4, 10), -2);
        Check.is("14: its last DAY", t.holder(4, 39073, 20, 10), 5);
        Check.is("14: behind it", t.holder(4, 39073, 21, 10), -2);
        Check.is("14: another TONGUE", t.holder(4, 38073, 12, 10), -2);
        Check.is("14: another LAND", t.holder(4, 39063, 12, 10), -2);
        Check.is("14: another FORM", t.holder(4, 39072, 12, 10), -2);
        t.grant(4, 1);
        t.days(2);
        Check.is("14: the least number", t.holder(4, 39073, 12, 12), 5);
        t.ends(0);
        Check.is("14: ENDED, the next", t.holder(4, 39073, 12, 12), 1);
        Check.is("14: not known as ENDED", t.holder(4, 39073, 12, 11), 5);
        Check.is("14: ahead of its end", t.holder(4, 39073, 11, 12), 5);
        int[] wrongPlaces = {-1, 40000, 80, 990, 4, 9, Integer.MIN_VALUE, Integer.MAX_VALUE};
        for (int where : wrongPlaces) {
            Check.is("14: where " + where, t.holder(4, where, 0, 0), -1);
        }
        Check.is("14: no WORK", t.holder(1, 0, 0, 0), -1);
        Check.is("14: day below 0", t.holder(4, 0, -1, 0), -1);
        Check.is("14: day 3600", t.holder(4, 0, 3600, 0), -1);
        Check.is("14: k below 0", t.holder(4, 0, 0, -1), -1);
        Check.is("14: k 3600", t.holder(4, 0, 0, 3600), -1);
    }

    private static void overlap() {
        TongueRights t = Check.start();
        t.bundle(0, 0);
        t.join(5, 4, 1);
        t.set(3, 10);
        t.set(4, 20);
        t.grant(4, 1);
        Check.is("15: one alone", t.overlap(4, 0), -2);
        t.set(0, 1);
        t.grant(4, 1);
        t.set(0, 0);
        t.set(1, 2);
        t.grant(4, 1);
        t.set(1, 1);
        t.set(2, 2);
        t.grant(4, 1);
        t.set(2, 1);
        t.set(3, 21);
        t.set(4, 30);
        t.grant(4, 1);
        Check.is("15: other TONGUE, LAND, FORM, DAYS", t.overlap(4, 0), -2);
        t.set(3, 20);
        t.grant(5, 1);
        Check.is("15: the lesser", t.overlap(4, 0), 0);
        Check.is("15: the greater, a BUNDLE's", t.overlap(4, 1), 5);
        Check.is("15: the first DAY", t.overlap(4, 2), 20);
        Check.is("15: none of the BUNDLE itself", t.overlap(5, 0), -2);
        Check.wait(t, 20);
        t.ends(0);
        Check.is("15: ENDED, another lesser", t.overlap(4, 0), 4);
        Check.is("15: ENDED, the greater", t.overlap(4, 1), 5);
        Check.is("15: ENDED, the DAY", t.overlap(4, 2), 21);
        t.days(2);
        t.ends(4);
        Check.is("15: it held on DAY 21", t.overlap(4, 2), 21);
        TongueRights u = Check.granted();
        u.grant(4, 1);
        u.ends(0);
        Check.is("15: ENDED on DAY 0, it never held", u.overlap(4, 0), -2);
        Check.is("15: what 3", t.overlap(4, 3), -1);
        Check.is("15: what below 0", t.overlap(4, -1), -1);
        Check.is("15: no WORK", t.overlap(0, 0), -1);
        Check.is("15: nobody", t.overlap(77, 0), -1);
    }

    private static void holes() {
        TongueRights t = Check.start();
        t.bundle(0, 0);
        t.join(5, 4, 1);
        Check.is("16: all", t.holes(4, 0, 0), -1);
        t.set(1, 0x81);
        t.set(2, 10);
        t.set(3, 5);
        t.grant(5, 1);
        Check.is("16: by a BUNDLE", t.holes(4, 0, 5), ~0xA000000A);
        Check.is("16: of the BUNDLE", t.holes(5, 0, 5), ~0xA000000A);
        Check.is("16: ahead of it", t.holes(4, 0, 4), -1);
        Check.is("16: another TONGUE", t.holes(4, 1, 5), -1);
        t.set(1, 255);
        t.set(2, 15);
        t.grant(4, 1);
        Check.is("16: none left", t.holes(4, 0, 3599), 0);
        Check.is("16: a GRANT of the WORK is none of its BUNDLE", t.holes(5, 0, 5), ~0xA000000A);
        t.days(6);
        t.ends(1);
        Check.is("16: ENDED", t.holes(4, 0, 6), ~0xA000000A);
        Check.is("16: no WORK", t.holes(1, 0, 0), 0);
        Check.is("16: tongue 40", t.holes(4, 40, 0), 0);
        Check.is("16: tongue below 0", t.holes(4, -1, 0), 0);
        Check.is("16: day 3600", t.holes(4, 0, 3600), 0);
        Check.is("16: day below 0", t.holes(4, 0, -1), 0);
    }

    private static void offer() {
        TongueRights t = Check.start();
        Check.is("17: no bits", t.offer(0, 1), -1);
        Check.is("17: no coins", t.offer(1, 0), -1);
        Check.is("17: coins 100000", t.offer(1, 100000), -1);
        for (int i = 1; i <= 10; i++) {
            Check.is("17: how many", t.offer(Integer.MIN_VALUE, 99999), i);
        }
        Check.is("17: full", t.offer(1, 1), -3);
        Check.is("17: BAD ahead of FULL", t.offer(0, 1), -1);
        Check.is("18: of like ones the least as bits", t.cover(4, 0, 0, 0), 1);
    }

    private static int best(int[] offers) {
        TongueRights t = Check.granted();
        for (int i = 0; i < offers.length; i += 2) {
            t.offer(offers[i], offers[i + 1]);
        }
        int found = t.cover(4, 0, 0, 0);
        Check.is("18: OFFERS are none then", t.cover(4, 0, 0, 0), -1);
        return found;
    }

    private static void best() {
        Check.is("18: none fits", best(new int[] {1, 9, 3, 99}), 0);
        Check.is("18: the greatest sum", best(new int[] {6, 9, 2, 5, 4, 5}), 6);
        Check.is("18: of several the most pairs", best(new int[] {2, 5, 6, 5, 12, 5}), 5);
        Check.is("18: of several the least as bits", best(new int[] {6, 5, 10, 5, 18, 5}), 1);
        Check.is("18: all that do not share", best(new int[] {-16, 1, 8, 1, 6, 1}), 7);
    }

    private static void cover() {
        TongueRights t = Check.granted();
        t.offer(-2, 5);
        Check.is("18: no WORK", t.cover(1, 0, 0, 1), -1);
        Check.is("18: tongue 40", t.cover(4, 40, 0, 1), -1);
        Check.is("18: day 3600", t.cover(4, 0, 3600, 1), -1);
        Check.is("18: what 2", t.cover(4, 0, 0, 2), -1);
        Check.is("18: what below 0", t.cover(4, 0, 0, -1), -1);
        Check.is("18: a HOLE is not covered", t.cover(4, 1, 0, 1), -2);
        Check.is("18: OFFERS stayed", t.offer(3, 1), 2);
        Check.is("18: the fewest", t.cover(4, 0, 0, 1), 1);
        t.offer(0xFFFF, 7);
        t.offer(0xFFFF, 9);
        t.offer(-1 << 15, 7);
        t.offer(0xFFFF, 9);
        Check.is("18: the greatest sum, then the least as bits", t.cover(4, 0, 0, 1), 6);
        t.set(1, 255);
        t.set(2, 15);
        t.grant(4, 1);
        t.offer(1, 1);
        Check.is("18: no HOLES, none needed", t.cover(4, 0, 0, 1), 0);
        Check.is("18: OFFERS are none then", t.cover(4, 0, 0, 1), -1);
    }
}
