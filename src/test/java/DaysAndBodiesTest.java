/** Promises 1 to 9. */
public final class DaysAndBodiesTest {
    private DaysAndBodiesTest() {
    }

    public static void main(String[] args) {
        newObject();
        days();
        body();
        work();
        bundle();
        join();
        dies();
        term();
        ofBody();
        Check.end("DaysAndBodiesTest");
    }

    private static void newObject() {
        TongueRights t = new TongueRights();
        for (int what = 0; what <= 9; what++) {
            Check.is("1: count " + what + " at first", t.count(what), 0);
        }
        Check.is("1: nobody", t.ofBody(0, 0), TongueRights.VOID);
        Check.is("1: no grants", t.ofGrant(0, 0), TongueRights.VOID);
        Check.is("1: the BLANK", t.blank(0), -1);
        Check.is("1: TERM", t.term(0), 9999);
        for (int shelf = 0; shelf < 6; shelf++) {
            Check.is("1: a SHELF holds nothing", t.cast(shelf, 0), -11);
        }
    }

    private static void days() {
        TongueRights t = new TongueRights();
        Check.is("2: 0 days", t.days(0), -1);
        Check.is("2: below 0", t.days(-1), -1);
        Check.is("2: 361", t.days(361), -1);
        Check.is("2: least int", t.days(Integer.MIN_VALUE), -1);
        Check.is("2: greatest int", t.days(Integer.MAX_VALUE), -1);
        Check.is("2: one", t.days(1), 1);
        Check.is("2: a year", t.days(360), 361);
        Check.wait(t, 3598 - 361);
        Check.is("2: near the end", t.count(6), 3598);
        Check.is("2: beyond the end", t.days(2), -1);
        Check.is("2: nothing changed", t.count(6), 3598);
        Check.is("2: the last day", t.days(1), 3599);
        Check.is("2: behind the last day", t.days(1), -1);
    }

    private static void body() {
        TongueRights t = new TongueRights();
        int[] kinds = {0, 1, 2, 3, 6};
        for (int i = 0; i < kinds.length; i++) {
            Check.is("3: its number", t.body(kinds[i]), i);
            Check.is("3: its KIND", t.ofBody(i, 0), kinds[i]);
        }
        int[] wrongKinds = {4, 5, 7, 8, -1, Integer.MIN_VALUE};
        for (int kind : wrongKinds) {
            Check.is("3: KIND " + kind, t.body(kind), -1);
        }
        for (int i = 5; i < 150; i++) {
            t.body(0);
        }
        Check.is("3: all", t.count(0), 150);
        Check.is("3: full", t.body(0), -3);
        Check.is("3: BAD ahead of FULL", t.body(4), -1);
        Check.is("3: still all", t.count(0), 150);
        Check.is("4: full", t.work(4, 4, 0), -3);
        Check.is("4: BAD ahead of FULL", t.work(4, 0, 0), -1);
        Check.is("5: full", t.bundle(4, 0), -3);
        Check.is("5: BAD ahead of FULL", t.bundle(0, 0), -1);
    }

    private static void work() {
        TongueRights t = new TongueRights();
        t.body(6);
        t.body(0);
        Check.is("4: a WORK", t.work(4, 0, 0), 2);
        Check.is("4: a FILM", t.work(7, 0, 3599), 3);
        Check.is("4: its DAY", t.ofBody(3, 2), 3599);
        Check.is("4: a BUNDLE", t.work(5, 0, 0), -1);
        Check.is("4: an AUTHOR", t.work(6, 0, 0), -1);
        Check.is("4: no AUTHOR", t.work(4, 1, 0), -1);
        Check.is("4: a WORK for AUTHOR", t.work(4, 2, 0), -1);
        Check.is("4: nobody", t.work(4, 4, 0), -1);
        Check.is("4: below 0", t.work(4, -1, 0), -1);
        Check.is("4: day below 0", t.work(4, 0, -1), -1);
        Check.is("4: day 3600", t.work(4, 0, 3600), -1);
        Check.is("4: none of these came", t.count(0), 4);
        Check.is("4: works", t.count(2), 2);
    }

    private static void bundle() {
        TongueRights t = Check.start();
        Check.is("5: its number", t.bundle(0, 7), 5);
        Check.is("5: its KIND", t.ofBody(5, 0), 5);
        Check.is("5: its AUTHOR", t.ofBody(5, 1), 0);
        Check.is("5: its DAY", t.ofBody(5, 2), 7);
        Check.is("5: no WORKS as yet", t.ofBody(5, 5), 0);
        Check.is("5: no AUTHOR", t.bundle(1, 0), -1);
        Check.is("5: day 3600", t.bundle(0, 3600), -1);
        Check.is("5: day below 0", t.bundle(0, -1), -1);
        Check.is("5: nobody", t.bundle(99, 0), -1);
    }

    private static void join() {
        TongueRights t = Check.start();
        t.bundle(0, 0);
        t.bundle(0, 0);
        t.work(7, 0, 0);
        Check.is("6: a WORK", t.join(5, 4, 1), 1);
        Check.is("6: a FILM", t.join(5, 7, 99), 2);
        Check.is("6: it has it", t.join(5, 7, 5), -1);
        Check.is("6: a BUNDLE", t.join(5, 6, 5), -1);
        Check.is("6: itself", t.join(5, 5, 5), -1);
        Check.is("6: an AUTHOR", t.join(5, 0, 5), -1);
        Check.is("6: into a WORK", t.join(4, 7, 5), -1);
        Check.is("6: worth 0", t.join(6, 4, 0), -1);
        Check.is("6: worth 100", t.join(6, 4, 100), -1);
        Check.is("6: nobody", t.join(6, 8, 1), -1);
        for (int i = 0; i < 5; i++) {
            t.work(4, 0, 0);
        }
        for (int i = 0; i < 4; i++) {
            Check.is("6: more", t.join(5, 8 + i, 1), 3 + i);
        }
        Check.is("6: full", t.join(5, 12, 1), -3);
        Check.is("6: BAD ahead of FULL", t.join(5, 8, 1), -1);
        t.grant(5, 1);
        Check.is("6: NOT ahead of FULL", t.join(5, 12, 1), -2);
        Check.is("6: BAD ahead of NOT", t.join(5, 4, 1), -1);
        t.grant(4, 1);
        Check.is("6: a WORK with a GRANT comes to a BUNDLE without", t.join(6, 4, 1), 1);
        Check.is("6: how many", t.ofBody(5, 5), 6);
    }

    private static void dies() {
        TongueRights t = Check.start();
        Check.is("7: a HOUSE", t.dies(1), -1);
        Check.is("7: nobody", t.dies(5), -1);
        Check.is("7: below 0", t.dies(-1), -1);
        t.term(10);
        t.days(5);
        Check.is("7: dies", t.dies(0), 1);
        t.days(3);
        Check.is("7: it did", t.dies(0), -2);
        t.days(6);
        Check.is("7: the first death counts, a DAY ahead", t.ofBody(4, 3), 0);
        t.days(1);
        Check.is("7: the first death counts", t.ofBody(4, 3), 1);
    }

    private static void term() {
        TongueRights t = Check.start();
        Check.is("8: 0", t.term(0), 9999);
        Check.is("8: below 0", t.term(-1), -1);
        Check.is("8: 10000", t.term(10000), -1);
        Check.is("8: alive, not FREE", t.ofBody(4, 3), 0);
        t.dies(0);
        Check.is("8: TERM 0, FREE at once", t.ofBody(4, 3), 1);
        Check.is("8: 1", t.term(1), 0);
        Check.is("8: not FREE on the DAY of death", t.ofBody(4, 3), 0);
        Check.is("8: 9999", t.term(9999), 1);
        Check.wait(t, 3599);
        Check.is("8: never", t.ofBody(4, 3), 0);
    }

    private static void ofBody() {
        TongueRights t = Check.start();
        t.body(0);
        t.body(6);
        t.work(7, 6, 0);
        t.bundle(6, 0);
        t.work(4, 0, 9);
        t.work(4, 6, 9);
        int none = TongueRights.VOID;
        Check.is("9: COINS of a BODY", t.ofBody(5, 1), none);
        Check.is("9: COINS of an AUTHOR", t.ofBody(0, 1), 0);
        Check.is("9: COINS of a SUB", t.ofBody(3, 1), 0);
        Check.is("9: DAY of a HOUSE", t.ofBody(1, 2), none);
        Check.is("9: what below 0", t.ofBody(4, -1), none);
        Check.is("9: what 6", t.ofBody(4, 6), none);
        Check.is("9: nobody", t.ofBody(11, 0), none);
        Check.is("9: below 0", t.ofBody(-1, 0), none);
        Check.is("9: AUTHOR", t.ofBody(7, 1), 6);
        Check.is("9: NEXT is of the same AUTHOR", t.ofBody(4, 4), 9);
        Check.is("9: NEXT of a FILM", t.ofBody(7, 4), 10);
        Check.is("9: NEXT of a BUNDLE", t.ofBody(8, 4), 10);
        Check.is("9: no NEXT", t.ofBody(9, 4), -1);
        Check.is("9: no WORKS in a WORK", t.ofBody(4, 5), 0);
        freeBundle();
    }

    private static void freeBundle() {
        TongueRights t = Check.start();
        t.body(6);
        t.bundle(0, 0);
        t.work(4, 5, 0);
        t.term(0);
        t.dies(0);
        Check.is("9: a BUNDLE without WORKS is not FREE", t.ofBody(6, 3), 0);
        t.join(6, 7, 1);
        Check.is("9: not by its own AUTHOR", t.ofBody(6, 3), 0);
        t.join(6, 4, 1);
        Check.is("9: by one of its WORKS", t.ofBody(6, 3), 1);
    }
}
