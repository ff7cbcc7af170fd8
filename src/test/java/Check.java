/** Counts answers that are not as due; a test ends with exit code 1 if there was one. */
final class Check {
    private static int asked;
    private static int wrong;

    private Check() {
    }

    static void is(String what, long got, long due) {
        asked++;
        if (got != due) {
            wrong++;
            System.out.println(what + ": answered " + got + ", due is " + due);
        }
    }

    static void holds(String what, boolean holds) {
        is(what, holds ? 1 : 0, 1);
    }

    static void end(String test) {
        System.out.println(test + ": " + (asked - wrong) + " of " + asked + " as due");
        if (wrong != 0 || asked == 0) {
            System.exit(1);
        }
    }

    /** Puts a text on THE TAPE, up to four bytes a call. */
    static void feed(TongueRights t, String text) {
        for (int i = 0; i < text.length(); i += 4) {
            int n = Math.min(4, text.length() - i);
            t.feed(n, bytes(text, i, n));
        }
    }

    /** Up to four bytes of a text as feed() takes them, the lowest first. */
    static int bytes(String text, int at, int n) {
        int v = 0;
        for (int j = 0; j < n; j++) {
            v |= (text.charAt(at + j) & 255) << (8 * j);
        }
        return v;
    }

    static int steps(TongueRights t, int grant, String text) {
        feed(t, text);
        return t.steps(grant);
    }

    /** Lets any number of DAYS go by. */
    static void wait(TongueRights t, int n) {
        for (int left = n; left > 0; left -= 360) {
            t.days(Math.min(360, left));
        }
    }

    /** An object with AUTHOR 0, HOUSE 1, AGENT 2, SUB 3, WORK 4 (comes on DAY 0) and DAYS 0 .. 3599 told for grants. */
    static TongueRights start() {
        TongueRights t = new TongueRights();
        t.body(6);
        t.body(1);
        t.body(2);
        t.body(3);
        t.work(4, 0, 0);
        t.set(4, 3599);
        return t;
    }

    /** The same with GRANT 0 of WORK 4 to HOUSE 1. */
    static TongueRights granted() {
        TongueRights t = start();
        t.grant(4, 1);
        return t;
    }
}
