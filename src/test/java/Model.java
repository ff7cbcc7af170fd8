import java.util.ArrayList;
import java.util.Arrays;
import java.util.List;
import java.util.regex.Pattern;

/** The document once more, told as slowly and plainly as it goes, to hold the class against in long random runs. */
public final class Model {
    private static final int BAD = -1, NOT = -2, FULL = -3, VOID = -2000000000;
    private static final int[] ABOVE = {-1, 0, 1, 2, 0, 4, 0, 4};
    private static final Pattern TEXT = Pattern.compile(textPattern());

    private static final class Somebody {
        int kind, author = -1, day, death = -1;
        int coins;
        final List<int[]> works = new ArrayList<>();
    }

    private static final class Told {
        int day, price;
        final List<int[]> tellings = new ArrayList<>();

        int[] asKnown(int k) {
            int[] last = null;
            for (int[] telling : tellings) {
                if (telling[0] <= k) {
                    last = telling;
                }
            }
            return last;
        }
    }

    private static final class Given {
        int work, house, made, ended = -1, paid;
        int[] by;
        boolean doubt, passed;
        String text;
        final List<Told> statements = new ArrayList<>();

        boolean has(int land, int form) {
            return (by[1] >> land) % 2 == 1 && (by[2] >> form) % 2 == 1;
        }
    }

    private int today, term = 9999, blank = -1, statements, again;
    private int paidInAll;
    private final List<Somebody> bodies = new ArrayList<>();
    private final List<Given> grants = new ArrayList<>();
    private final int[] by = {0, 1, 1, 0, 0, -1, -1, 0, 0, 0};
    private String tape = "";
    private final List<int[]> offers = new ArrayList<>(), periods = new ArrayList<>(), asks = new ArrayList<>();
    private int[] found;
    private final List<Integer> ran = new ArrayList<>();
    private final Object[] shelves = new Object[6];
    private final int[] sorts = new int[6];

    // ---- days, bodies

    public int days(int n) {
        if (n < 1 || n > 360 || today + n >= 3600) {
            return BAD;
        }
        return today += n;
    }

    public int body(int kind) {
        return List.of(0, 1, 2, 3, 6).contains(kind) ? come(kind, -1, 0) : BAD;
    }

    public int work(int kind, int author, int day) {
        return (kind == 4 || kind == 7) && is(author, 6) && isDay(day) ? come(kind, author, day) : BAD;
    }

    public int bundle(int author, int day) {
        return is(author, 6) && isDay(day) ? come(5, author, day) : BAD;
    }

    private int come(int kind, int author, int day) {
        if (bodies.size() == 150) {
            return FULL;
        }
        Somebody b = new Somebody();
        b.kind = kind;
        b.author = author;
        b.day = day;
        bodies.add(b);
        return bodies.size() - 1;
    }

    public int join(int bundle, int work, int worth) {
        if (!is(bundle, 5) || !is(work, 4, 7) || worth < 1 || worth > 99 || contains(bundle, work)) {
            return BAD;
        }
        if (grants.stream().anyMatch(g -> g.work == bundle)) {
            return NOT;
        }
        List<int[]> works = bodies.get(bundle).works;
        if (works.size() == 6) {
            return FULL;
        }
        works.add(new int[] {work, worth});
        return works.size();
    }

    public int dies(int author) {
        if (!is(author, 6)) {
            return BAD;
        }
        if (bodies.get(author).death != -1) {
            return NOT;
        }
        bodies.get(author).death = today;
        return 1;
    }

    public int term(int v) {
        if (v < 0 || v > 9999) {
            return BAD;
        }
        int was = term;
        term = v;
        return was;
    }

    public int ofBody(int body, int what) {
        if (body < 0 || body >= bodies.size() || what < 0 || what > 5) {
            return VOID;
        }
        Somebody b = bodies.get(body);
        if (what == 0) {
            return b.kind;
        }
        if (!isWork(body)) {
            return what == 1 && b.kind != 0 ? b.coins : VOID;
        }
        return new int[] {b.kind, b.author, b.day, isFree(body) ? 1 : 0, next(body), b.works.size()}[what];
    }

    private boolean isFree(int work) {
        Somebody b = bodies.get(work);
        if (b.kind == 5) {
            return b.works.stream().anyMatch(w -> isFree(w[0]));
        }
        int death = bodies.get(b.author).death;
        return death != -1 && today - death >= term;
    }

    private int next(int work) {
        for (int i = work + 1; i < bodies.size(); i++) {
            if (is(i, 4) && bodies.get(i).author == bodies.get(work).author) {
                return i;
            }
        }
        return -1;
    }

    private boolean is(int body, int... kinds) {
        return body >= 0 && body < bodies.size() && Arrays.stream(kinds).anyMatch(k -> k == bodies.get(body).kind);
    }

    private boolean isWork(int body) {
        return is(body, 4, 5, 7);
    }

    private boolean contains(int bundle, int work) {
        return bodies.get(bundle).works.stream().anyMatch(w -> w[0] == work);
    }

    private static boolean isDay(int day) {
        return day >= 0 && day <= 3599;
    }

    // ---- grants

    public int set(int what, int v) {
        int[][] range = {{0, 39}, {1, 255}, {1, 15}, {0, 3599}, {0, 3599}, {-1, 149}, {-1, 149}, {0, 999999}, {0, 50},
            {0, 720}};
        if (what < 0 || what > 9 || v < range[what][0] || v > range[what][1]) {
            return BAD;
        }
        int was = by[what];
        by[what] = v;
        return was;
    }

    public int grant(int work, int house) {
        if (!isWork(work) || !is(house, 1, 2, 3) || by[3] > by[4]) {
            return BAD;
        }
        if (by[5] != -1 && !is(by[5], 2, 3) || by[6] != -1 && (by[5] == -1 || !is(by[6], 3))) {
            return BAD;
        }
        if (is(work, 5) && bodies.get(work).works.isEmpty()) {
            return BAD;
        }
        if (isFree(work)) {
            return NOT;
        }
        if (grants.size() == 120) {
            return FULL;
        }
        Given g = new Given();
        g.work = work;
        g.house = house;
        g.made = today;
        g.by = by.clone();
        grants.add(g);
        payOut(g, by[7]);
        return grants.size() - 1;
    }

    private void payOut(Given g, int coins) {
        paidInAll += coins;
        bodies.get(g.house).coins -= coins;
        long left = coins;
        if (g.by[6] != -1) {
            left -= give(g.by[6], (long) Math.ceil(left / 10.0));
        }
        if (g.by[5] != -1) {
            left -= give(g.by[5], -Math.floorDiv(-left * 15, 100L));
        }
        List<int[]> works = is(g.work, 5) ? bodies.get(g.work).works : List.of(new int[] {g.work, 1});
        long worth = works.stream().mapToLong(w -> w[1]).sum();
        long rest = left;
        long sum = left;
        for (int[] w : works) {
            rest -= give(bodies.get(w[0]).author, sum * w[1] / worth);
        }
        List<int[]> byRests = new ArrayList<>(works);
        byRests.sort((a, b) -> Long.compare(sum * b[1] % worth, sum * a[1] % worth));
        for (int i = 0; i < rest; i++) {
            give(bodies.get(byRests.get(i)[0]).author, 1);
        }
    }

    private long give(int body, long coins) {
        bodies.get(body).coins += (int) coins;
        return coins;
    }

    private Given given(int grant) {
        return grant >= 0 && grant < grants.size() ? grants.get(grant) : null;
    }

    public int ends(int grant) {
        Given g = given(grant);
        if (g == null) {
            return BAD;
        }
        if (g.ended != -1) {
            return NOT;
        }
        g.ended = today;
        return 1;
    }

    public int ofGrant(int grant, int what) {
        Given g = given(grant);
        if (g == null || what < 0 || what > 15) {
            return VOID;
        }
        return new int[] {g.work, g.house, g.by[0], g.by[1], g.by[2], g.by[3], g.by[4], g.by[5], g.by[6], g.made, g.ended,
            g.by[7], g.by[8], g.statements.size(), g.paid, g.doubt ? 1 : 0}[what];
    }

    private boolean holds(Given g, int d, int k) {
        if (g.made > k || d < g.by[3] || d > g.by[4]) {
            return false;
        }
        return g.ended == -1 || g.ended > k || d < g.ended;
    }

    private boolean holdsRight(Given g, int work, int tongue, int land, int form) {
        boolean ofIt = g.work == work || contains(g.work, work);
        return ofIt && g.by[0] == tongue && g.has(land, form);
    }

    public int holder(int work, int where, int day, int k) {
        for (int tongue = 0; tongue < 40; tongue++) {
            for (int land = 0; land < 8; land++) {
                for (int form = 0; form < 4; form++) {
                    if (where == 1000 * tongue + 10 * land + form && isWork(work) && isDay(day) && isDay(k)) {
                        return firstHolder(work, new int[] {tongue, land, form}, day, k);
                    }
                }
            }
        }
        return BAD;
    }

    private int firstHolder(int work, int[] right, int day, int k) {
        for (Given g : grants) {
            if (holdsRight(g, work, right[0], right[1], right[2]) && holds(g, day, k)) {
                return g.house;
            }
        }
        return NOT;
    }

    public int overlap(int work, int what) {
        if (!isWork(work) || what < 0 || what > 2) {
            return BAD;
        }
        for (int a = 0; a < grants.size(); a++) {
            for (int b = a + 1; b < grants.size(); b++) {
                int day = meeting(work, grants.get(a), grants.get(b));
                if (day >= 0) {
                    return new int[] {a, b, day}[what];
                }
            }
        }
        return NOT;
    }

    private int meeting(int work, Given a, Given b) {
        for (int pair = 0; pair < 32; pair++) {
            int tongue = a.by[0];
            if (!holdsRight(a, work, tongue, pair / 4, pair % 4) || !holdsRight(b, work, tongue, pair / 4, pair % 4)) {
                continue;
            }
            for (int day = 0; day < 3600; day++) {
                if (holds(a, day, today) && holds(b, day, today)) {
                    return day;
                }
            }
        }
        return -1;
    }

    public int holes(int work, int tongue, int day) {
        if (!isWork(work) || tongue < 0 || tongue > 39 || !isDay(day)) {
            return 0;
        }
        int bits = 0;
        for (int pair = 0; pair < 32; pair++) {
            if (firstHolder(work, new int[] {tongue, pair / 4, pair % 4}, day, today) == NOT) {
                bits |= 1 << pair;
            }
        }
        return bits;
    }

    public int offer(int bits, int coins) {
        if (bits == 0 || coins < 1 || coins > 99999) {
            return BAD;
        }
        if (offers.size() == 10) {
            return FULL;
        }
        offers.add(new int[] {bits, coins});
        return offers.size();
    }

    public int cover(int work, int tongue, int day, int what) {
        if (!isWork(work) || tongue < 0 || tongue > 39 || !isDay(day) || what < 0 || what > 1 || offers.isEmpty()) {
            return BAD;
        }
        int holes = holes(work, tongue, day);
        long best = Long.MIN_VALUE;
        int bestSet = NOT;
        for (int set = (1 << offers.size()) - 1; set >= 0; set--) {
            long rank = what == 0 ? rankOfBest(set, holes) : rankOfCover(set, holes);
            if (rank >= best && rank != Long.MIN_VALUE) {
                best = rank;
                bestSet = set;
            }
        }
        if (bestSet != NOT) {
            offers.clear();
        }
        return bestSet;
    }

    private long rankOfBest(int set, int holes) {
        int[] times = new int[32];
        long sum = 0;
        int pairs = 0;
        for (int i = 0; i < offers.size(); i++) {
            for (int pair = 0; pair < 32 && (set >> i) % 2 == 1; pair++) {
                if ((offers.get(i)[0] >>> pair & 1) == 1) {
                    times[pair]++;
                    pairs++;
                    if (times[pair] > 1 || (holes >>> pair & 1) == 0) {
                        return Long.MIN_VALUE;
                    }
                }
            }
            sum += (set >> i) % 2 * offers.get(i)[1];
        }
        return sum * 100 + pairs;
    }

    private long rankOfCover(int set, int holes) {
        int all = 0;
        long sum = 0;
        for (int i = 0; i < offers.size(); i++) {
            if ((set >> i) % 2 == 1) {
                all |= offers.get(i)[0];
                sum += offers.get(i)[1];
            }
        }
        return (all & holes) == holes ? -10000000L * Integer.bitCount(set) + sum : Long.MIN_VALUE;
    }

    // ---- steps, statements

    public int feed(int n, int v) {
        if (n < 1 || n > 4) {
            return BAD;
        }
        if (tape.length() + n > 120) {
            return FULL;
        }
        for (int i = 0; i < n; i++) {
            tape += (char) (v >>> (8 * i) & 255);
        }
        return tape.length();
    }

    private static String textPattern() {
        String operand = "(?:[0-9]{1,4}|[pyfl])";
        for (int open = 0; open < 6; open++) {
            String sum = operand + "(?:[-+*/]" + operand + ")*";
            operand = "(?:[0-9]{1,4}|[pyfl]|\\(" + sum + "\\))";
        }
        String step = "[0-9]{1,6}:" + operand + "(?:[-+*/]" + operand + ")*";
        return step + "(?:;" + step + ")*";
    }

    private static boolean goesOn(String start) {
        for (String middle : new String[] {"", "0", ":0", "0:0"}) {
            for (String end : new String[] {"", ")", "))", ")))", "))))", ")))))", "))))))"}) {
                if (TEXT.matcher(start + middle + end).matches()) {
                    return true;
                }
            }
        }
        return false;
    }

    /** The FAULT; -1: none. */
    static int fault(String text) {
        int fault = TEXT.matcher(text).matches() ? -1 : text.length();
        for (int i = 0; i < text.length(); i++) {
            if (!goesOn(text.substring(0, i + 1))) {
                fault = i;
                break;
            }
        }
        int ahead = -1;
        int end = fault == -1 ? text.length() : fault;
        for (int i = 0; i <= end && i < text.length(); i++) {
            if (i == 0 || text.charAt(i - 1) == ';') {
                int j = i;
                while (j < text.length() && j < i + 6 && text.charAt(j) >= '0' && text.charAt(j) <= '9') {
                    j++;
                }
                if (j > i) {
                    int n = Integer.parseInt(text.substring(i, j));
                    if (i == 0 ? n != 0 : n <= ahead) {
                        return i;
                    }
                    ahead = n;
                }
            }
        }
        return fault;
    }

    public int steps(int grant) {
        Given g = given(grant);
        if (g == null) {
            return BAD;
        }
        if (!g.statements.isEmpty()) {
            return NOT;
        }
        String text = tape;
        tape = "";
        int fault = fault(text);
        if (fault >= 0) {
            return -100 - fault;
        }
        g.text = text;
        return text.split(";").length;
    }

    public int rate(int grant, int n, int price, int d) {
        Given g = given(grant);
        if (g == null || n < 0 || n > 999999 || price < 1 || price > 9999 || !isDay(d)) {
            return BAD;
        }
        return value(g, stepOf(g, n), price, d);
    }

    private static int stepOf(Given g, int copy) {
        int step = 0;
        String[] steps = g.text == null ? new String[0] : g.text.split(";");
        for (int i = 0; i < steps.length; i++) {
            step = Integer.parseInt(steps[i].split(":")[0]) <= copy ? i : step;
        }
        return step;
    }

    private static int value(Given g, int step, int price, int day) {
        if (g.text == null) {
            return 10;
        }
        String e = g.text.split(";")[step].split(":")[1];
        e = e.replace("p", "[" + price + "]").replace("y", "[" + (day - g.by[3]) / 360 + "]");
        e = e.replace("l", "[" + Integer.bitCount(g.by[1]) + "]");
        int form = 0;
        while (!g.has(Integer.numberOfTrailingZeros(g.by[1]), form)) {
            form++;
        }
        e = e.replace("f", "[" + form + "]");
        int v = reckon(e);
        return v < 0 ? 0 : v > 100 ? 100 : v;
    }

    /** By the last sign outside of all ( that binds least. */
    private static int reckon(String e) {
        for (String signs : new String[] {"+-", "*/"}) {
            int open = 0;
            for (int i = e.length() - 1; i > 0; i--) {
                char c = e.charAt(i);
                open += c == ')' || c == ']' ? 1 : c == '(' || c == '[' ? -1 : 0;
                if (open == 0 && signs.indexOf(c) >= 0) {
                    int a = reckon(e.substring(0, i));
                    int b = reckon(e.substring(i + 1));
                    return c == '+' ? a + b : c == '-' ? a - b : c == '*' ? a * b : b == 0 ? 0 : a / b;
                }
            }
        }
        if (e.startsWith("(")) {
            return reckon(e.substring(1, e.length() - 1));
        }
        return Integer.parseInt(e.startsWith("[") ? e.substring(1, e.length() - 1) : e);
    }

    private static boolean isStatement(int sold, int back, int price) {
        return sold >= 0 && sold <= 99999 && back >= 0 && back <= 99999 && price >= 1 && price <= 9999;
    }

    private void tell(Given g, int sold, int back, int price) {
        Told s = new Told();
        s.day = today;
        s.price = price;
        s.tellings.add(new int[] {today, sold, back});
        g.statements.add(s);
        statements++;
    }

    public int state(int grant, int sold, int back, int price) {
        Given g = given(grant);
        if (g == null || !isStatement(sold, back, price)) {
            return BAD;
        }
        if (today < g.by[3]) {
            return NOT;
        }
        if (statements == 400) {
            return FULL;
        }
        tell(g, sold, back, price);
        return g.statements.size();
    }

    public int anew(int grant, int i, int sold, int back) {
        Given g = given(grant);
        if (g == null || i < 0 || i >= g.statements.size() || !isStatement(sold, back, 1)) {
            return BAD;
        }
        if (again == 200) {
            return FULL;
        }
        again++;
        g.statements.get(i).tellings.add(new int[] {today, sold, back});
        return 1;
    }

    public int rowOf(int grant, int shelf, int i, int n) {
        Given g = given(grant);
        if (g == null || shelf < 0 || shelf > 5 || n < 1 || n > 20) {
            return BAD;
        }
        if (today < g.by[3]) {
            return NOT;
        }
        Object held = shelves[shelf];
        if (held instanceof Integer || held != null && sorts[shelf] != 2) {
            return -12;
        }
        long[] row = held == null ? new long[0] : (long[]) held;
        int came = 0;
        while (came < n) {
            if (statements == 400) {
                return came;
            }
            long at = i + 3L * came;
            int[] three = new int[3];
            boolean whole = at >= 0 && at + 3 <= row.length;
            for (int j = 0; j < 3 && whole; j++) {
                three[j] = (int) row[(int) at + j];
                if (three[j] == blank) {
                    int last = g.statements.size() - 1;
                    three[j] = j < 2 ? 0 : last < 0 ? 10 : g.statements.get(last).price;
                }
            }
            if (!whole || !isStatement(three[0], three[1], three[2])) {
                g.doubt = true;
                return came;
            }
            tell(g, three[0], three[1], three[2]);
            came++;
        }
        g.doubt = false;
        return came;
    }

    public int blank(int v) {
        int was = blank;
        blank = v;
        return was;
    }

    private static int copies(Given g, int i, int k) {
        int sum = 0;
        for (int j = 0; j <= i; j++) {
            int[] telling = g.statements.get(j).asKnown(k);
            sum += telling[1] - telling[2];
        }
        return Math.max(sum, 0);
    }

    private static long royalty(Given g, int i, int k) {
        int a = i == 0 ? 0 : copies(g, i - 1, k);
        int b = copies(g, i, k);
        Told s = g.statements.get(i);
        int[] inStep = new int[100];
        for (int copy = Math.min(a, b); copy < Math.max(a, b); copy++) {
            inStep[stepOf(g, copy)]++;
        }
        long sum = 0;
        for (int step = 0; step < 100; step++) {
            sum += inStep[step] == 0 ? 0 : (long) inStep[step] * s.price * value(g, step, s.price, s.day) / 100;
        }
        return b >= a ? sum : -sum;
    }

    public int ofState(int grant, int i, int k, int what) {
        Given g = given(grant);
        if (g == null || i < 0 || i >= g.statements.size() || !isDay(k) || what < 0 || what > 4) {
            return VOID;
        }
        Told s = g.statements.get(i);
        if (s.day > k) {
            return VOID;
        }
        switch (what) {
            case 0: return s.asKnown(k)[1];
            case 1: return s.asKnown(k)[2];
            case 2: return s.price;
            case 3: return copies(g, i, k);
            default: return (int) royalty(g, i, k);
        }
    }

    public int due(int grant, int k, int what) {
        Given g = given(grant);
        if (g == null || !isDay(k) || what < 0 || what > 3) {
            return VOID;
        }
        long sum = 0;
        long last = 0;
        for (int i = 0; i < g.statements.size(); i++) {
            if (g.statements.get(i).day <= k) {
                last = royalty(g, i, k);
                sum += last;
            }
        }
        sum = Math.min(1999999999, Math.max(-1999999999, sum));
        long due = Math.max(0, sum - g.by[7]);
        long held = last <= 0 ? 0 : -Math.floorDiv(-last * g.by[8], 100L);
        long payable = Math.max(0, Math.max(0, due - held) - g.paid);
        return (int) new long[] {sum, due, held, payable}[what];
    }

    public int pay(int grant) {
        Given g = given(grant);
        if (g == null) {
            return BAD;
        }
        int coins = due(grant, today, 3);
        g.paid += coins;
        payOut(g, coins);
        return coins;
    }

    // ---- lapses, options

    private int since(Given g) {
        int since = g.by[3];
        for (int i = 0; i < g.statements.size(); i++) {
            if (rise(g, i) > 0) {
                since = g.statements.get(i).day;
            }
        }
        return since;
    }

    private int rise(Given g, int i) {
        return copies(g, i, today) - (i == 0 ? 0 : copies(g, i - 1, today));
    }

    public int lapse(int grant, int daysCopies, int what) {
        Given g = given(grant);
        int days = Math.floorDiv(daysCopies, 100000);
        if (g == null || days < 1 || days > 3600 || what < 0 || what > 1) {
            return BAD;
        }
        if (g.ended != -1) {
            return NOT;
        }
        int gone = today - since(g);
        if (what == 1) {
            return gone >= days ? 0 : days - gone;
        }
        if (gone >= days) {
            return 1;
        }
        int risen = 0;
        for (int i = 0; i < g.statements.size(); i++) {
            risen += today - g.statements.get(i).day < 360 && rise(g, i) > 0 ? rise(g, i) : 0;
        }
        return today - g.by[3] >= 360 && risen < daysCopies % 100000 ? 2 : 0;
    }

    public int lapses(int grant, int daysCopies) {
        int why = lapse(grant, daysCopies, 0);
        if (why > 0) {
            grants.get(grant).ended = today;
        }
        return why == 0 ? NOT : why;
    }

    public int pass(int grant) {
        Given g = given(grant);
        if (g == null) {
            return BAD;
        }
        if (g.by[9] == 0 || g.passed) {
            return NOT;
        }
        g.passed = true;
        return 1;
    }

    public int mustAsk(int work, int tongue, int day, int i) {
        if (!isWork(work) || tongue < 0 || tongue > 39 || !isDay(day)) {
            return BAD;
        }
        List<Integer> asked = new ArrayList<>();
        int comes = bodies.get(work).day;
        for (int n = 0; n < grants.size(); n++) {
            Given g = grants.get(n);
            boolean open = comes <= day && day <= comes + g.by[9] - 1;
            if (g.by[0] == tongue && holds(g, comes, today) && next(g.work) == work && open && !g.passed) {
                asked.add(n);
            }
        }
        return i == -1 ? asked.size() : i >= 0 && i < asked.size() ? asked.get(i) : BAD;
    }

    // ---- rows, offers in order

    public int period(int said, int shops) {
        if (said < 0 || said > 999999 || shops < -1 || shops > 999999) {
            return BAD;
        }
        if (periods.size() == 12) {
            return FULL;
        }
        periods.add(new int[] {said, shops == -1 ? 0 : shops});
        return periods.size();
    }

    public int wrong(int printed) {
        if (printed < 0 || printed > 999999 || periods.isEmpty()) {
            return BAD;
        }
        List<int[]> rows = new ArrayList<>(periods);
        periods.clear();
        int[] inSets = new int[rows.size() + 1];
        for (int set = 0; set < 1 << rows.size(); set++) {
            if (doesIt(rows, set, printed)) {
                inSets[Integer.bitCount(set)]++;
            }
        }
        int many = 0;
        while (many <= rows.size() && inSets[many] == 0) {
            many++;
        }
        if (many > rows.size()) {
            return NOT;
        }
        found = new int[] {many, inSets[many] > 1 ? 1 : 0};
        return leastSum(rows, printed);
    }

    /** Whether it can be right if just these are changed, each to whatever number. */
    private static boolean doesIt(List<int[]> rows, int set, int printed) {
        int sum = 0;
        for (int i = 0; i < rows.size(); i++) {
            boolean changed = (set >> i) % 2 == 1;
            if (!changed && rows.get(i)[0] < rows.get(i)[1]) {
                return false;
            }
            sum += changed ? rows.get(i)[1] : rows.get(i)[0];
        }
        return sum <= printed;
    }

    /** One by one: what is too little rises, then what is too much falls wherever it may. */
    private static int leastSum(List<int[]> rows, int printed) {
        int changes = 0;
        int sum = 0;
        for (int[] row : rows) {
            int to = Math.max(row[0], row[1]);
            changes += to - row[0];
            sum += to;
        }
        for (int[] row : rows) {
            int can = Math.max(row[0], row[1]) - row[1];
            int falls = Math.max(0, Math.min(can, sum - printed));
            changes += falls;
            sum -= falls;
        }
        return changes;
    }

    public int fewest(int what) {
        return what < 0 || what > 1 || found == null ? BAD : found[what];
    }

    public int ask(int coins, int day, int waits) {
        if (coins < 1 || coins > 99999 || day < 0 || day > 999 || waits < 0 || waits > 99) {
            return BAD;
        }
        if (asks.size() == 8) {
            return FULL;
        }
        asks.add(new int[] {coins, day, day + waits, asks.size()});
        return asks.size();
    }

    public int taken(int day, int share) {
        if (day < 0 || day > 1999 || share < 0 || share > 200 || asks.isEmpty()) {
            return BAD;
        }
        List<int[]> order = new ArrayList<>(asks);
        order.sort((a, b) -> Integer.compare(a[2], b[2]));
        for (int[] one : order) {
            if (one[2] < day) {
                int most = 0;
                for (int[] other : asks) {
                    most = other != one && other[1] <= one[2] ? Math.max(most, other[0]) : most;
                }
                if (one[0] * 100 > (100 + share) * most) {
                    return one[3];
                }
            }
        }
        order = new ArrayList<>(asks);
        order.removeIf(one -> one[1] > day || one[2] < day);
        order.sort((a, b) -> Integer.compare(b[0], a[0]));
        return order.isEmpty() ? NOT : order.get(0)[3];
    }

    public int unask() {
        int were = asks.size();
        asks.clear();
        return were;
    }

    // ---- acts, shelves

    public int act(int body, int act, int x) {
        ran.clear();
        if (body < 0 || body >= bodies.size() || act < 0 || act > 3) {
            return 0;
        }
        return run(body, bodies.get(body).kind, act, x);
    }

    private int own(int n, int act, int x) {
        return run(n, bodies.get(n).kind, act, x);
    }

    /** Numbers of the bodies of acts by KIND, then act: 0 none. */
    private static final int[][] ACTS = {
        {1, 10, 11, 2}, {20, 0, 0, 0}, {0, 30, 0, 0}, {0, 40, 41, 0}, {0, 0, 50, 0}, {0, 0, 61, 60}, {70, 0, 0, 0},
        {0, 0, 0, 80}};

    private int run(int n, int from, int act, int x) {
        int kind = from;
        while (ACTS[kind][act] == 0) {
            kind = ABOVE[kind];
        }
        int up = ABOVE[kind];
        ran.add(ACTS[kind][act]);
        switch (ACTS[kind][act]) {
            case 1: return x + n * 2;
            case 10: return own(n, 0, x) - 1;
            case 11: return x ^ n;
            case 2: return own(n, 2, own(n, 1, x));
            case 20: return run(n, up, 0, x) + 5;
            case 30: return run(n, up, 1, x) * 2;
            case 40: return run(n, up, 1, x + 1);
            case 41: return run(n, up, 2, x) - own(n, 0, 0);
            case 50: return -run(n, up, 2, x);
            case 60: return run(n, up, 3, x) ^ 3;
            case 61: return run(n, up, 2, x) + own(n, 1, 2);
            case 70: return run(n, up, 0, x) * 3;
            default: return run(n, up, 3, x + 2);
        }
    }

    public int trace(int i) {
        return i >= 0 && i < ran.size() && i < 24 ? ran.get(i) : BAD;
    }

    public int keep(int shelf, int body) {
        if (shelf < 0 || shelf > 5 || body < -1 || body >= bodies.size()) {
            return BAD;
        }
        shelves[shelf] = body == -1 ? null : (Object) body;
        return 1;
    }

    public int row(int shelf, int sort, int n) {
        if (shelf < 0 || shelf > 5 || sort < 0 || sort > 4 || n > 60) {
            return BAD;
        }
        if (n < 0) {
            return -14;
        }
        shelves[shelf] = new long[n];
        sorts[shelf] = sort;
        return 1;
    }

    private int refusal(int shelf, int i) {
        if (shelf < 0 || shelf > 5) {
            return BAD;
        }
        if (shelves[shelf] == null) {
            return -11;
        }
        if (!(shelves[shelf] instanceof long[])) {
            return -12;
        }
        return i < 0 || i >= ((long[]) shelves[shelf]).length ? -13 : 1;
    }

    public int put(int shelf, int i, long v) {
        int refusal = refusal(shelf, i);
        if (refusal == 1) {
            int sort = sorts[shelf];
            int bits = 64 - (sort == 0 ? 8 : sort == 1 ? 16 : sort == 2 ? 32 : 64);
            ((long[]) shelves[shelf])[i] = sort == 4 ? (v == 0 ? 0 : 1) : v << bits >> bits;
        }
        return refusal;
    }

    public long element(int shelf, int i) {
        return refusal(shelf, i) == 1 ? ((long[]) shelves[shelf])[i] : Long.MIN_VALUE;
    }

    public int shift(int shelf, int i, int other, int j, int n) {
        if (shelf < 0 || shelf > 5 || other < 0 || other > 5) {
            return BAD;
        }
        if (shelves[shelf] == null || shelves[other] == null) {
            return -11;
        }
        if (!(shelves[shelf] instanceof long[]) || !(shelves[other] instanceof long[]) || sorts[shelf] != sorts[other]) {
            return -12;
        }
        long[] from = ((long[]) shelves[shelf]).clone();
        long[] to = (long[]) shelves[other];
        if (n < 0 || i < 0 || j < 0 || (long) i + n > from.length || (long) j + n > to.length) {
            return -13;
        }
        for (int at = 0; at < n; at++) {
            to[j + at] = from[i + at];
        }
        return n;
    }

    public int cast(int shelf, int k) {
        if (shelf < 0 || shelf > 5 || k < 0 || k > 7) {
            return BAD;
        }
        if (shelves[shelf] == null) {
            return -11;
        }
        if (!(shelves[shelf] instanceof Integer)) {
            return -12;
        }
        int kind = bodies.get((Integer) shelves[shelf]).kind;
        for (int up = kind; up >= 0; up = ABOVE[up]) {
            if (up == k) {
                return kind;
            }
        }
        return -12;
    }

    public int count(int what) {
        switch (what) {
            case 0: return bodies.size();
            case 1: return (int) bodies.stream().filter(b -> b.kind >= 1 && b.kind <= 3).count();
            case 2: return (int) bodies.stream().filter(b -> b.author != -1).count();
            case 3: return grants.size();
            case 4: return (int) grants.stream().filter(g -> g.ended == -1).count();
            case 5: return statements;
            case 6: return today;
            case 7: return tape.length();
            case 8: return paidInAll;
            case 9: return ran.size();
            default: return BAD;
        }
    }
}
