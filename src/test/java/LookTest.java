import java.util.List;

/** That a look tells objects apart: each call here changes something, and the look sees it. */
public final class LookTest {
    private static final String[] CHANGES = {
        "days 1", "body 0", "work 4 0 0", "bundle 0 0", "join 10 7 1", "dies 0", "term 0", "set 0 5", "set 1 5", "set 2 5",
        "set 3 5", "set 4 5", "set 5 3", "set 6 1", "set 7 5", "set 8 5", "set 9 5", "grant 4 1", "ends 0", "ends 4",
        "offer 64 1", "cover 4 0 0 0", "feed 1 48", "steps 2", "steps 4", "state 0 1 0 1", "state 1 0 0 1", "anew 0 0 41 4",
        "anew 0 1 9 0", "anew 0 0 40 5", "rowOf 0 1 0 1", "rowOf 0 1 3 1", "blank 3", "lapses 4 100000", "pass 0",
        "pass 4", "period 1 1", "wrong 99", "ask 1 0 0", "unask", "act 8 0 1", "act 3 2 5", "keep 0 4", "keep 0 -1", "keep 3 7",
        "row 1 2 4", "row 4 0 0", "put 1 0 8", "put 1 1 8", "put 2 1 0", "shift 1 0 1 1 1",
    };

    private LookTest() {
    }

    public static void main(String[] args) {
        List<Long> before = Script.lookAfter(Script.RICH);
        Check.holds("the same calls look the same", before.equals(Script.lookAfter(Script.RICH)));
        for (String change : CHANGES) {
            Check.holds(change + " is seen", !before.equals(Script.lookAfter(Script.RICH, change)));
        }
        String owing = Script.RICH + ", state 0 100 0 10";
        Check.holds("pay 0 is seen", !Script.lookAfter(owing).equals(Script.lookAfter(owing, "pay 0")));
        Check.end("LookTest");
    }
}
