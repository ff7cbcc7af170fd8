/** Promises 19 to 28. */
public final class StatementsTest {
    private static final int VOID = TongueRights.VOID;

    private StatementsTest() {
    }

    public static void main(String[] args) {
        feed();
        faults();
        steps();
        rate();
        state();
        anew();
        rowOf();
        rowOfFull();
        rowOfPrices();
        ofState();
        due();
        dueIsHeld();
        pay();
        Check.end("StatementsTest");
    }

    private static void feed() {
        TongueRights t = Check.granted();
        Check.is("19: none", t.feed(0, 0), -1);
        Check.is("19: five", t.feed(5, 0), -1);
        Check.is("19: the lowest first", t.feed(3, '0' | ':' << 8 | '7' << 16 | '8' << 24), 3);
        Check.is("19: just three came", t.steps(0), 1);
        Check.is("19: the value", t.rate(0, 0, 1, 0), 7);
        for (int i = 1; i < 30; i++) {
            Check.is("19: how many", t.feed(4, -1), 4 * i);
        }
        t.feed(1, 0);
        Check.is("19: full", t.feed(4, 0), -3);
        Check.is("19: BAD ahead of FULL", t.feed(5, 0), -1);
        Check.is("19: nothing changed", t.count(7), 117);
        Check.is("19: up to 120", t.feed(3, 0), 120);
        Check.is("19: full at 120", t.feed(1, 0), -3);
    }

    private static void faults() {
        Object[][] rows = {
            {"", 0}, {"0", 1}, {"0:", 2}, {"0:1;", 4}, {"0:1;2", 5}, {"0:1;2:", 6}, {":", 0}, {"x", 0}, {"1", 0},
            {"1:", 0}, {"7x", 0}, {"01:1", 0}, {"0x", 1}, {"0000000:1", 6}, {"0000001:1", 6}, {"1000000:1", 0},
            {"0:1;0:1", 4}, {"0:1;000:1", 4}, {"0:1;5:1;5", 8}, {"0:1;50:1;6x", 9}, {"0:1;5:1;1234567:1", 14},
            {"0:1;5:1;0000051:1", 8}, {"0:12345", 6}, {"0:1 ", 3}, {"0: 1", 2}, {"0:+1", 2}, {"0:1+", 4}, {"0:1+*", 4},
            {"0:1**1", 4}, {"0:()", 3}, {"0:(1", 4}, {"0:(1;", 4}, {"0:1)", 3}, {"0:(1))", 5}, {"0:pp", 3}, {"0:1p", 3},
            {"0:p1", 3}, {"0:z", 2}, {"0:P", 2}, {"0:(((((((1)))))))", 8}, {"0:1:", 3}, {"0:1;;", 4}, {"0:1\u00b1", 3},
            {"0:(1)(", 5}, {"0:1(", 3}, {"0:(1+)", 5}, {"0:1\u0000", 3},
        };
        for (Object[] row : rows) {
            TongueRights t = Check.granted();
            Check.is("20: " + row[0], Check.steps(t, 0, (String) row[0]), -100 - (Integer) row[1]);
            Check.is("20: no STEPS then", t.rate(0, 0, 100, 0), 10);
            Check.is("20: THE TAPE is empty then", t.count(7), 0);
        }
    }

    private static void steps() {
        TongueRights t = Check.granted();
        Check.is("20: one", Check.steps(t, 0, "000000:5"), 1);
        Check.is("20: it is held", t.rate(0, 999999, 1, 0), 5);
        Check.is("20: in place of it", Check.steps(t, 0, "00:6;1:7;002:8;999999:9"), 4);
        Check.is("20: from 1 on", t.rate(0, 1, 1, 0), 7);
        Check.is("20: from 2 on", t.rate(0, 999998, 1, 0), 8);
        Check.is("20: the last", t.rate(0, 999999, 1, 0), 9);
        Check.is("20: a FAULT", Check.steps(t, 0, "0:1;x"), -104);
        Check.is("20: what it has stays", t.rate(0, 0, 1, 0), 6);
        Check.is("20: six open", Check.steps(t, 0, "0:((((((1))))))+(((((((p)))))))"), -122);
        Check.is("20: six open twice", Check.steps(t, 0, "0:((((((1))))))+((((((2))))))"), 1);
        Check.is("20: the value", t.rate(0, 0, 1, 0), 3);
        Check.feed(t, "0:1");
        Check.is("20: no such", t.steps(1), -1);
        Check.is("20: below 0", t.steps(-1), -1);
        t.state(0, 1, 0, 1);
        Check.is("20: a statement was told", t.steps(0), -2);
        Check.is("20: THE TAPE stays", t.count(7), 3);
        t.grant(4, 1);
        Check.is("20: another GRANT has none", t.steps(1), 1);
        Check.is("20: its value", t.rate(1, 0, 1, 0), 1);
    }

    private static int value(String text, int price, int day) {
        TongueRights t = Check.start();
        t.set(1, 0xB0);
        t.set(2, 12);
        t.set(3, 100);
        t.grant(4, 1);
        Check.is("21: " + text, Check.steps(t, 0, "0:" + text), 1);
        return t.rate(0, 0, price, day);
    }

    private static void rate() {
        Check.is("21: p", value("p", 77, 100), 77);
        Check.is("21: y within the first year", value("y+5", 1, 459), 5);
        Check.is("21: y behind a year", value("y+5", 1, 460), 6);
        Check.is("21: y at the end", value("y", 1, 3599), 9);
        Check.is("21: f", value("f", 1, 100), 2);
        Check.is("21: l", value("l", 1, 100), 3);
        Check.is("21: held below", value("1-2", 1, 100), 0);
        Check.is("21: held above", value("p", 101, 100), 100);
        Check.is("21: not held within", value("(1-5)*(2-7)", 1, 100), 20);
        Check.is("21: from the left", value("20-5-3", 1, 100), 12);
        Check.is("21: from the left, too", value("80/4/2*3", 1, 100), 30);
        Check.is("21: * ahead of +", value("2+3*4-6/2", 1, 100), 11);
        Check.is("21: by 0", value("7+5/0", 1, 100), 7);
        Check.is("21: by 0 in a product", value("9*5/(3-3)*2+1", 1, 100), 1);
        Check.is("21: toward 0", value("10+(0-7)/2", 1, 100), 7);
        Check.is("21: ints that wrap", value("8192*8192*64+50", 1, 100), 50);
        Check.is("21: least int by -1", value("(8192*8192*32)/(0-1)/8192/8192/(0-1)", 1, 100), 32);
        TongueRights t = Check.granted();
        Check.is("21: without a TEXT", t.rate(0, 5, 9999, 3599), 10);
        Check.is("21: n below 0", t.rate(0, -1, 1, 0), -1);
        Check.is("21: n 1000000", t.rate(0, 1000000, 1, 0), -1);
        Check.is("21: price 0", t.rate(0, 0, 0, 0), -1);
        Check.is("21: price 10000", t.rate(0, 0, 10000, 0), -1);
        Check.is("21: day below 0", t.rate(0, 0, 1, -1), -1);
        Check.is("21: day 3600", t.rate(0, 0, 1, 3600), -1);
        Check.is("21: no such", t.rate(1, 0, 1, 0), -1);
    }

    private static void state() {
        TongueRights t = Check.start();
        t.set(3, 3);
        t.grant(4, 1);
        Check.is("22: ahead of its first DAY", t.state(0, 1, 0, 1), -2);
        Check.is("22: BAD ahead of NOT", t.state(0, -1, 0, 1), -1);
        t.days(3);
        Check.is("22: how many", t.state(0, 0, 0, 1), 1);
        Check.is("22: the most", t.state(0, 99999, 99999, 9999), 2);
        Check.is("22: sold 100000", t.state(0, 100000, 0, 1), -1);
        Check.is("22: back below 0", t.state(0, 0, -1, 1), -1);
        Check.is("22: back 100000", t.state(0, 0, 100000, 1), -1);
        Check.is("22: price 0", t.state(0, 0, 0, 0), -1);
        Check.is("22: price 10000", t.state(0, 0, 0, 10000), -1);
        Check.is("22: no such", t.state(1, 0, 0, 1), -1);
        t.ends(0);
        Check.is("22: of one that ENDED, too", t.state(0, 1, 0, 1), 3);
        t.grant(4, 1);
        for (int i = 4; i <= 400; i++) {
            t.state(0, 1, 0, 1);
        }
        Check.is("22: in all", t.count(5), 400);
        Check.is("22: full for every GRANT", t.state(1, 1, 0, 1), -3);
        Check.is("22: BAD ahead of FULL", t.state(1, 1, 0, 0), -1);
    }

    private static void anew() {
        TongueRights t = Check.granted();
        t.grant(4, 1);
        t.state(1, 9, 0, 10);
        t.state(0, 1, 0, 10);
        t.state(0, 2, 0, 10);
        Check.is("23: no such GRANT", t.anew(2, 0, 1, 1), -1);
        Check.is("23: no such statement", t.anew(0, 2, 1, 1), -1);
        Check.is("23: below 0", t.anew(0, -1, 1, 1), -1);
        Check.is("23: sold 100000", t.anew(0, 0, 100000, 1), -1);
        Check.is("23: back below 0", t.anew(0, 0, 1, -1), -1);
        t.days(2);
        Check.is("23: told anew", t.anew(0, 1, 50, 3), 1);
        Check.is("23: as known ahead", t.ofState(0, 1, 1, 0), 2);
        Check.is("23: as known", t.ofState(0, 1, 2, 0), 50);
        Check.is("23: BACK as known", t.ofState(0, 1, 2, 1), 3);
        Check.is("23: the other statement stays", t.ofState(0, 0, 2, 0), 1);
        Check.is("23: the other GRANT stays", t.ofState(1, 0, 2, 0), 9);
        t.anew(0, 1, 60, 0);
        Check.is("23: the last of a DAY counts", t.ofState(0, 1, 2, 0), 60);
        for (int i = 2; i < 200; i++) {
            t.anew(i % 2, 0, i, 0);
        }
        Check.is("23: full", t.anew(0, 0, 1, 1), -3);
        Check.is("23: BAD ahead of FULL", t.anew(0, 5, 1, 1), -1);
        Check.is("23: the last one", t.ofState(1, 0, 2, 0), 199);
    }

    private static void fill(TongueRights t, int shelf, int... values) {
        t.row(shelf, 2, values.length);
        for (int i = 0; i < values.length; i++) {
            t.put(shelf, i, values[i]);
        }
    }

    private static void rowOf() {
        TongueRights t = Check.start();
        t.set(3, 2);
        t.grant(4, 1);
        fill(t, 0, 5, 1, 20, 7, 0, 30, 9);
        t.row(1, 3, 9);
        t.keep(2, 4);
        Check.is("24: ahead of its first DAY", t.rowOf(0, 0, 0, 1), -2);
        Check.is("24: NOT ahead of -12", t.rowOf(0, 1, 0, 1), -2);
        Check.is("24: BAD ahead of NOT", t.rowOf(0, 6, 0, 1), -1);
        t.days(2);
        Check.is("24: shelf below 0", t.rowOf(0, -1, 0, 1), -1);
        Check.is("24: none", t.rowOf(0, 0, 0, 0), -1);
        Check.is("24: 21", t.rowOf(0, 0, 0, 21), -1);
        Check.is("24: no such GRANT", t.rowOf(1, 0, 0, 1), -1);
        Check.is("24: a ROW of longs", t.rowOf(0, 1, 0, 1), -12);
        Check.is("24: -12 with a place below 0", t.rowOf(0, 1, -1, 1), -12);
        Check.is("24: a BODY", t.rowOf(0, 2, 0, 1), -12);
        Check.is("24: no DOUBT by these", t.ofGrant(0, 15), 0);
        Check.is("24: two", t.rowOf(0, 0, 0, 2), 2);
        Check.is("24: BACK", t.ofState(0, 0, 2, 1), 1);
        Check.is("24: price", t.ofState(0, 1, 2, 2), 30);
        Check.is("24: ends within a three", t.rowOf(0, 0, 3, 2), 1);
        Check.is("24: DOUBT", t.ofGrant(0, 15), 1);
        Check.is("24: what came ahead stays", t.ofGrant(0, 13), 3);
        Check.is("24: whole", t.rowOf(0, 0, 0, 1), 1);
        Check.is("24: no DOUBT then", t.ofGrant(0, 15), 0);
        int[] places = {-1, Integer.MIN_VALUE, 5, 7, 8, Integer.MAX_VALUE};
        for (int place : places) {
            Check.is("24: from " + place, t.rowOf(0, 0, place, 20), 0);
            Check.is("24: DOUBT from " + place, t.ofGrant(0, 15), 1);
            t.rowOf(0, 0, 0, 1);
        }
        Check.is("24: a SHELF with nothing", t.rowOf(0, 3, 0, 1), 0);
        Check.is("24: DOUBT by it", t.ofGrant(0, 15), 1);
        t.state(0, 1, 0, 1);
        Check.is("24: a statement by call leaves it", t.ofGrant(0, 15), 1);
    }

    private static void rowOfFull() {
        TongueRights t = Check.granted();
        t.grant(4, 1);
        t.row(0, 2, 60);
        t.put(0, 0, 1);
        for (int i = 0; i < 60; i += 3) {
            t.put(0, i + 2, 9);
        }
        for (int i = 0; i < 19; i++) {
            Check.is("24: twenty", t.rowOf(0, 0, 0, 20), 20);
        }
        t.rowOf(1, 0, 0, 5);
        t.rowOf(0, 5, 0, 1);
        Check.is("24: up to 400", t.rowOf(0, 0, 0, 20), 15);
        Check.is("24: in all", t.count(5), 400);
        Check.is("24: DOUBT stays", t.ofGrant(0, 15), 1);
        Check.is("24: no more", t.rowOf(1, 0, 0, 1), 0);
        Check.is("24: no DOUBT by FULL", t.ofGrant(1, 15), 0);
        Check.is("24: FULL is asked ahead of a missing row", t.rowOf(1, 5, -1, 1), 0);
        Check.is("24: no DOUBT by that", t.ofGrant(1, 15), 0);
        Check.is("24: -12 ahead of it", t.row(4, 0, 1) + t.rowOf(1, 4, 0, 1), -11);
    }

    private static void rowOfPrices() {
        TongueRights t = Check.granted();
        t.grant(4, 1);
        t.state(1, 1, 0, 77);
        fill(t, 0, -1, -1, -1, 8, -2, 5);
        Check.is("25: any", t.blank(Integer.MIN_VALUE), -1);
        Check.is("24: -1 is no BLANK then", t.rowOf(0, 0, 0, 1), 0);
        Check.is("25: what it was", t.blank(-1), Integer.MIN_VALUE);
        Check.is("24: BLANKS, then one that is not so", t.rowOf(0, 0, 0, 2), 1);
        Check.is("24: SOLD 0", t.ofState(0, 0, 0, 0), 0);
        Check.is("24: BACK 0", t.ofState(0, 0, 0, 1), 0);
        Check.is("24: price 10 without a statement of the GRANT", t.ofState(0, 0, 0, 2), 10);
        t.state(0, 0, 0, 33);
        t.rowOf(0, 0, 0, 1);
        Check.is("24: price of the statement ahead", t.ofState(0, 2, 0, 2), 33);
        t.blank(8);
        fill(t, 1, 8, 8, 8, 1, 0, 10000, 100000, 0, 1, 0, 0, 0);
        Check.is("24: the BLANK ahead of a number", t.rowOf(0, 1, 0, 1), 1);
        Check.is("24: SOLD", t.ofState(0, 3, 0, 0), 0);
        Check.is("24: price", t.ofState(0, 3, 0, 2), 33);
        Check.is("24: price 10000", t.rowOf(0, 1, 3, 1), 0);
        Check.is("24: sold 100000", t.rowOf(0, 1, 6, 1), 0);
        Check.is("24: price 0", t.rowOf(0, 1, 9, 1), 0);
        Check.is("24: none of these came", t.ofGrant(0, 13), 4);
        Check.is("25: kept", t.blank(0), 8);
    }

    private static void ofState() {
        TongueRights t = Check.granted();
        Check.steps(t, 0, "0:10;100:33;150:20");
        t.state(0, 20, 50, 99);
        t.state(0, 25, 0, 99);
        t.state(0, 165, 0, 99);
        t.days(1);
        t.state(0, 0, 50, 7);
        Check.is("26: COPIES 0 at least", t.ofState(0, 0, 0, 3), 0);
        Check.is("26: COPIES by all till then", t.ofState(0, 1, 0, 3), 0);
        Check.is("26: COPIES rise", t.ofState(0, 2, 0, 3), 160);
        Check.is("26: ROYALTY 0", t.ofState(0, 1, 0, 4), 0);
        Check.is("26: ROYALTY cut by STEP", t.ofState(0, 2, 0, 4), 990 + 1633 + 198);
        Check.is("26: ROYALTY if they fall", t.ofState(0, 3, 1, 4), -(14 + 92));
        Check.is("26: COPIES fall", t.ofState(0, 3, 1, 3), 110);
        Check.is("26: told later", t.ofState(0, 3, 0, 0), VOID);
        Check.is("26: price", t.ofState(0, 3, 1, 2), 7);
        Check.is("26: k beyond TODAY", t.ofState(0, 3, 3599, 1), 50);
        Check.is("26: k 3600", t.ofState(0, 3, 3600, 1), VOID);
        Check.is("26: k below 0", t.ofState(0, 0, -1, 1), VOID);
        Check.is("26: no such statement", t.ofState(0, 4, 1, 1), VOID);
        Check.is("26: statement below 0", t.ofState(0, -1, 1, 1), VOID);
        Check.is("26: no such GRANT", t.ofState(1, 0, 1, 1), VOID);
        Check.is("26: what 5", t.ofState(0, 0, 1, 5), VOID);
        Check.is("26: what below 0", t.ofState(0, 0, 1, -1), VOID);
        ofLateState();
    }

    private static void ofLateState() {
        TongueRights t = Check.granted();
        Check.steps(t, 0, "0:y*10+5");
        t.days(360);
        t.state(0, 100, 0, 100);
        Check.wait(t, 720);
        t.anew(0, 0, 200, 0);
        Check.is("26: y of its first telling", t.ofState(0, 0, 1080, 4), 200 * 15);
        Check.is("26: as known ahead", t.ofState(0, 0, 1079, 4), 100 * 15);
        TongueRights u = Check.granted();
        Check.steps(u, 0, "0:100");
        u.state(0, 99999, 0, 9999);
        Check.is("26: the greatest", u.ofState(0, 0, 0, 4), 999890001);
        u.state(0, 0, 99999, 9999);
        Check.is("26: the least", u.ofState(0, 1, 0, 4), -999890001);
    }

    private static void due() {
        TongueRights t = Check.start();
        t.set(7, 100);
        t.set(8, 33);
        t.grant(4, 1);
        Check.is("27: SUM of none", t.due(0, 0, 0), 0);
        Check.is("27: DUE of none", t.due(0, 0, 1), 0);
        Check.is("27: HELD of none", t.due(0, 0, 2), 0);
        t.state(0, 50, 0, 20);
        Check.is("27: SUM", t.due(0, 0, 0), 100);
        Check.is("27: the ADVANCE is eaten", t.due(0, 0, 1), 0);
        Check.is("27: HELD though nothing is DUE", t.due(0, 0, 2), 33);
        Check.is("27: PAYABLE 0 at least", t.due(0, 0, 3), 0);
        t.days(1);
        t.state(0, 10, 0, 31);
        Check.is("27: SUM of two", t.due(0, 1, 0), 131);
        Check.is("27: DUE", t.due(0, 1, 1), 31);
        Check.is("27: HELD, up", t.due(0, 1, 2), 11);
        Check.is("27: PAYABLE", t.due(0, 1, 3), 20);
        Check.is("27: as known ahead", t.due(0, 0, 0), 100);
        t.pay(0);
        Check.is("27: PAYABLE less what was PAID", t.due(0, 1, 3), 0);
        t.days(1);
        t.state(0, 0, 5, 31);
        Check.is("27: HELD by the last statement, if above 0", t.due(0, 2, 2), 0);
        Check.is("27: SUM falls", t.due(0, 2, 0), 116);
        Check.is("27: PAYABLE is not below 0", t.due(0, 2, 3), 0);
        Check.is("27: HELD as known ahead", t.due(0, 1, 2), 11);
        t.set(7, 0);
        t.set(8, 1);
        t.grant(4, 1);
        t.state(1, 1, 0, 10);
        Check.is("27: HELD of 1, up", t.due(1, 2, 2), 1);
        Check.is("27: what 4", t.due(0, 0, 4), VOID);
        Check.is("27: what below 0", t.due(0, 0, -1), VOID);
        Check.is("27: k below 0", t.due(0, -1, 0), VOID);
        Check.is("27: k 3600", t.due(0, 3600, 0), VOID);
        Check.is("27: no such", t.due(2, 0, 0), VOID);
    }

    private static void dueIsHeld() {
        TongueRights t = Check.granted();
        Check.steps(t, 0, "0:100");
        for (int i = 0; i < 3; i++) {
            t.state(0, 99999, 0, 9999);
        }
        Check.is("27: held above", t.due(0, 0, 0), 1999999999);
        Check.is("27: all of it is PAYABLE", t.due(0, 0, 3), 1999999999);
        for (int i = 0; i < 3; i++) {
            t.state(0, 0, 99999, 1);
        }
        t.state(0, 99999, 0, 1);
        Check.is("27: held at the end alone", t.due(0, 0, 0), 1999999999);
        TongueRights u = Check.granted();
        Check.steps(u, 0, "0:100");
        for (int i = 0; i < 3; i++) {
            u.state(0, 99999, 0, 1);
        }
        for (int i = 0; i < 3; i++) {
            u.state(0, 0, 99999, 9999);
        }
        Check.is("27: held below", u.due(0, 0, 0), -1999999999);
        Check.is("27: nothing is DUE", u.due(0, 0, 1), 0);
    }

    private static void pay() {
        TongueRights t = Check.start();
        t.set(5, 2);
        t.set(6, 3);
        t.set(8, 50);
        t.grant(4, 1);
        t.state(0, 100, 0, 22);
        Check.is("28: how much", t.pay(0), 110);
        Check.is("28: the SUB", t.ofBody(3, 1), 11);
        Check.is("28: the AGENT", t.ofBody(2, 1), 15);
        Check.is("28: the AUTHOR", t.ofBody(0, 1), 84);
        Check.is("28: the HOUSE", t.ofBody(1, 1), -110);
        Check.is("28: in all", t.count(8), 110);
        Check.is("28: nothing more", t.pay(0), 0);
        t.days(1);
        t.state(0, 0, 0, 22);
        Check.is("28: what was HELD", t.pay(0), 110);
        t.anew(0, 0, 10, 0);
        Check.is("28: nothing comes back", t.pay(0), 0);
        Check.is("28: PAID", t.ofGrant(0, 14), 220);
        Check.is("28: no such", t.pay(1), -1);
        Check.is("28: below 0", t.pay(-1), -1);
        payOfBundle();
    }

    private static void payOfBundle() {
        TongueRights t = Check.start();
        t.body(6);
        t.work(4, 5, 0);
        t.bundle(0, 0);
        t.join(7, 4, 1);
        t.join(7, 6, 2);
        t.grant(7, 1);
        t.state(0, 1, 0, 100);
        Check.is("28: of a BUNDLE", t.pay(0), 10);
        Check.is("28: the lesser WORTH", t.ofBody(0, 1), 3);
        Check.is("28: the greatest rest", t.ofBody(5, 1), 7);
    }
}
