/** Promises 39 to 47. */
public final class ActsAndShelvesTest {
    private static final int GRANTS = 0, READS = 1, OWES = 2, TELLS = 3;

    private ActsAndShelvesTest() {
    }

    public static void main(String[] args) {
        acts();
        traces();
        keep();
        row();
        put();
        shift();
        cast();
        count();
        Check.end("ActsAndShelvesTest");
    }

    /** BODIES 0 .. 7 of the KINDS 6, 0, 1, 2, 3, 4, 5, 7. */
    private static TongueRights ofEachKind() {
        TongueRights t = new TongueRights();
        t.body(6);
        for (int kind = 0; kind <= 3; kind++) {
            t.body(kind);
        }
        t.work(4, 0, 0);
        t.bundle(0, 0);
        t.work(7, 0, 0);
        return t;
    }

    private static void acts() {
        TongueRights t = ofEachKind();
        int x = 100;
        int[][] due = {
            {300, 299, 100, 299},
            {102, 101, 101, 100},
            {109, 108, 102, 110},
            {111, 220, 103, 223},
            {113, 226, 96 - 13, (226 ^ 4) - 13},
            {110, 109, -(100 ^ 5), -(109 ^ 5)},
            {112, 111, -(100 ^ 6) + 13, (-(111 ^ 6) + 13) ^ 3},
            {114, 113, -(100 ^ 7), -(115 ^ 7)},
        };
        for (int body = 0; body < due.length; body++) {
            for (int act = GRANTS; act <= TELLS; act++) {
                Check.is("39: act " + act + " of " + body, t.act(body, act, x), due[body][act]);
            }
        }
        Check.is("39: ints that wrap", t.act(0, GRANTS, Integer.MAX_VALUE), Integer.MAX_VALUE - 2);
        Check.is("39: wrap by + 1", t.act(4, READS, Integer.MAX_VALUE), 2 * (Integer.MIN_VALUE + 12));
    }

    private static void trace(TongueRights t, int body, int act, int... due) {
        t.act(body, act, 9);
        Check.is("47: how many ran", t.count(9), due.length);
        for (int i = 0; i < due.length; i++) {
            Check.is("40: act " + act + " of " + body + " at " + i, t.trace(i), due[i]);
        }
        Check.is("40: no more", t.trace(due.length), -1);
        Check.is("40: below 0", t.trace(-1), -1);
    }

    private static void traces() {
        TongueRights t = ofEachKind();
        Check.is("40: before any", t.trace(0), -1);
        trace(t, 0, TELLS, 2, 10, 70, 1, 11);
        trace(t, 1, TELLS, 2, 10, 1, 11);
        trace(t, 2, TELLS, 2, 10, 20, 1, 11);
        trace(t, 3, TELLS, 2, 30, 10, 20, 1, 11);
        trace(t, 4, TELLS, 2, 40, 30, 10, 20, 1, 41, 11, 20, 1);
        trace(t, 5, TELLS, 2, 10, 1, 50, 11);
        trace(t, 6, TELLS, 60, 2, 10, 1, 61, 50, 11, 10, 1);
        trace(t, 7, TELLS, 80, 2, 10, 1, 50, 11);
        trace(t, 4, OWES, 41, 11, 20, 1);
        trace(t, 1, GRANTS, 1);
        int[][] none = {{8, 0}, {-1, 0}, {0, 4}, {0, -1}};
        for (int[] row : none) {
            t.act(0, TELLS, 1);
            Check.is("39: no such", t.act(row[0], row[1], 5), 0);
            Check.is("39: no TRACE then", t.trace(0), -1);
            Check.is("47: none ran", t.count(9), 0);
        }
    }

    private static void keep() {
        TongueRights t = ofEachKind();
        Check.is("41: a BODY", t.keep(5, 7), 1);
        Check.is("41: it is held", t.cast(5, 0), 7);
        Check.is("41: nobody", t.keep(5, 8), -1);
        Check.is("41: below -1", t.keep(5, -2), -1);
        Check.is("41: shelf 6", t.keep(6, 0), -1);
        Check.is("41: shelf below 0", t.keep(-1, -1), -1);
        Check.is("41: nothing changed", t.cast(5, 0), 7);
        Check.is("41: in place of a ROW", t.row(5, 0, 1) + t.keep(5, 0), 2);
        Check.is("41: no ROW then", t.put(5, 0, 1), -12);
        Check.is("41: nothing", t.keep(5, -1), 1);
        Check.is("41: nothing is there", t.cast(5, 0), -11);
    }

    private static void row() {
        TongueRights t = ofEachKind();
        Check.is("42: sort 5", t.row(0, 5, 1), -1);
        Check.is("42: sort below 0", t.row(0, -1, 1), -1);
        Check.is("42: 61", t.row(0, 0, 61), -1);
        Check.is("42: shelf 6", t.row(6, 0, 1), -1);
        Check.is("42: shelf below 0", t.row(-1, 0, 1), -1);
        Check.is("42: size below 0", t.row(0, 0, -1), -14);
        Check.is("42: BAD ahead of -14", t.row(0, 5, -1), -1);
        Check.is("42: still nothing", t.put(0, 0, 0), -11);
        Check.is("42: none", t.row(0, 0, 0), 1);
        Check.is("42: no place", t.put(0, 0, 0), -13);
        Check.is("42: sixty", t.row(0, 3, 60), 1);
        Check.is("42: 0 at first", t.element(0, 59), 0);
        t.put(0, 59, 5);
        t.row(0, 3, 60);
        Check.is("42: 0 again", t.element(0, 59), 0);
        t.keep(1, 0);
        t.row(1, 4, 2);
        Check.is("42: in place of a BODY", t.cast(1, 6), -12);
    }

    private static void put() {
        TongueRights t = ofEachKind();
        long v = 0x123456789ABCDEF0L;
        long[] due = {(byte) v, (short) v, (int) v, v, 1};
        for (int sort = 0; sort < 5; sort++) {
            t.row(0, sort, 3);
            Check.is("43: sort " + sort, t.put(0, 2, v), 1);
            Check.is("44: sort " + sort, t.element(0, 2), due[sort]);
            Check.is("44: the others stay", t.element(0, 1), 0);
            t.put(0, 2, 1L << 32);
            Check.is("44: the lowest bits", t.element(0, 2), sort < 3 ? 0 : sort == 3 ? 1L << 32 : 1);
            t.put(0, 2, 0);
            Check.is("44: 0", t.element(0, 2), 0);
        }
        t.keep(1, 0);
        int[][] refused = {{6, 0, -1}, {-1, 0, -1}, {2, 0, -11}, {1, 0, -12}, {1, 99, -12}, {0, 3, -13}, {0, -1, -13}};
        for (int[] row : refused) {
            Check.is("43: shelf " + row[0] + " at " + row[1], t.put(row[0], row[1], 1), row[2]);
            Check.is("44: shelf " + row[0] + " at " + row[1], t.element(row[0], row[1]), Long.MIN_VALUE);
        }
    }

    private static void shift() {
        TongueRights t = ofEachKind();
        t.row(0, 2, 5);
        for (int i = 0; i < 5; i++) {
            t.put(0, i, i + 1);
        }
        t.row(1, 2, 2);
        t.row(2, 1, 5);
        t.keep(3, 0);
        Check.is("45: to another", t.shift(0, 3, 1, 0, 2), 2);
        Check.is("45: what came", 10 * t.element(1, 0) + t.element(1, 1), 45);
        Check.is("45: forward in the same", t.shift(0, 0, 0, 1, 4), 4);
        Check.is("45: as they all were before", t.element(0, 1) * 100 + t.element(0, 2) * 10 + t.element(0, 4), 124);
        Check.is("45: back in the same", t.shift(0, 1, 0, 0, 4), 4);
        Check.is("45: as they all were, too", t.element(0, 0) * 100 + t.element(0, 1) * 10 + t.element(0, 3), 124);
        Check.is("45: none, at the end", t.shift(0, 5, 1, 2, 0), 0);
        int[][] refused = {
            {6, 0, 0, 0, 1, -1}, {0, 0, -1, 0, 1, -1}, {4, 0, 0, 0, 1, -11}, {0, 0, 4, 0, 1, -11}, {3, 0, 4, 0, 1, -11},
            {3, 0, 0, 0, 1, -12}, {0, 0, 3, 0, 1, -12}, {3, 0, 3, 0, 0, -12}, {0, 0, 2, 0, 1, -12},
            {0, 0, 1, 0, -1, -13}, {0, -1, 1, 0, 1, -13}, {0, 0, 1, -1, 1, -13}, {0, 4, 1, 0, 2, -13},
            {0, 0, 1, 1, 2, -13}, {0, 6, 1, 0, 0, -13}, {0, 0, 1, 3, 0, -13},
            {0, 1, 1, 0, Integer.MAX_VALUE, -13}, {0, Integer.MAX_VALUE, 1, 0, 1, -13},
            {0, 0, 2, 0, -1, -12},
        };
        for (int[] row : refused) {
            int got = t.shift(row[0], row[1], row[2], row[3], row[4]);
            Check.is("45: " + java.util.Arrays.toString(row), got, row[5]);
        }
    }

    private static void cast() {
        TongueRights t = ofEachKind();
        int[] above = {-1, 0, 1, 2, 0, 4, 0, 4};
        for (int body = 0; body < 8; body++) {
            t.keep(0, body);
            int kind = t.ofBody(body, 0);
            for (int k = 0; k < 8; k++) {
                boolean under = false;
                for (int up = kind; up >= 0; up = above[up]) {
                    under |= up == k;
                }
                Check.is("46: KIND " + kind + " for " + k, t.cast(0, k), under ? kind : -12);
            }
        }
        t.row(1, 0, 1);
        Check.is("46: a ROW", t.cast(1, 0), -12);
        Check.is("46: nothing", t.cast(2, 0), -11);
        Check.is("46: k 8", t.cast(0, 8), -1);
        Check.is("46: k below 0", t.cast(0, -1), -1);
        Check.is("46: BAD ahead of -11", t.cast(2, 8), -1);
        Check.is("46: shelf 6", t.cast(6, 0), -1);
        Check.is("46: shelf below 0", t.cast(-1, 0), -1);
    }

    private static void count() {
        TongueRights t = ofEachKind();
        t.set(7, 100);
        t.grant(5, 2);
        t.grant(5, 2);
        t.state(0, 100, 0, 100);
        t.state(1, 1, 0, 1);
        t.pay(0);
        t.ends(1);
        t.days(7);
        t.feed(3, 0);
        t.act(1, GRANTS, 0);
        int[] due = {8, 3, 3, 2, 1, 2, 7, 3, 200 + 900, 1};
        for (int what = 0; what < due.length; what++) {
            Check.is("47: what " + what, t.count(what), due[what]);
        }
        Check.is("47: what 10", t.count(10), -1);
        Check.is("47: what below 0", t.count(-1), -1);
    }
}
