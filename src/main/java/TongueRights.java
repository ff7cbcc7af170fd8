import java.util.Arrays;

/** The right to put books into other tongues, as ../shared/DOC.md promises it. */
public final class TongueRights {
    public static final int BAD = -1, NOT = -2, FULL = -3, VOID = -2000000000;

    private static final int MISSING = -11, UNLIKE = -12, NO_PLACE = -13, BELOW_SIZE = -14;

    private static final int LAST_DAY = 3599, YEAR = 360;
    private static final int MOST_BODIES = 150, MOST_GRANTS = 120, MOST_TAPE = 120, MOST_SHELVES = 6;
    private static final int MOST_TERM = 9999, MOST_COPIES = 99999, MOST_PRICE = 9999, MOST_COINS = 99999;
    private static final int MOST_PRINTED = 999999, MOST_THREES = 20, PRICE_WITHOUT = 10;
    private static final int MOST_TONGUE = 39, MOST_LAND = 7, MOST_FORM = 3;
    private static final int SUB_PART = 10, AGENT_PART = 15;

    private static final int BODY = 0, HOUSE = 1, AGENT = 2, SUB = 3, WORK = 4, BUNDLE = 5, AUTHOR = 6, FILM = 7;
    /** For each KIND the one above it: always a lesser number, so that going up comes to an end. */
    private static final int[] ABOVE = {-1, BODY, HOUSE, AGENT, BODY, WORK, BODY, WORK};

    private static final int BY_TONGUE = 0, BY_LANDS = 1, BY_FORMS = 2, BY_FROM = 3, BY_TO = 4;
    private static final int BY_AGENT = 5, BY_SUB = 6, BY_ADVANCE = 7, BY_HOLD = 8, BY_OPTION = 9, BY_ALL = 10;
    private static final int[] BY_FIRST = {0, 1, 1, 0, 0, -1, -1, 0, 0, 0};
    private static final int[] BY_LEAST = {0, 1, 1, 0, 0, -1, -1, 0, 0, 0};
    private static final int[] BY_MOST = {MOST_TONGUE, 255, 15, LAST_DAY, LAST_DAY, 149, 149, 999999, 50, 720};

    private int today;
    private int termDays;
    private int blankMark;
    private int paidInAll;
    private final Body[] bodies;
    private int bodyCount;
    private final Grant[] grants;
    private int grantCount;
    private final int[] by;
    private final byte[] tape;
    private int tapeSize;
    private final Ledger ledger;
    private final Offers offers;
    private final Periods periods;
    private final Waiting waiting;
    private final Acts acts;
    private final Shelf[] shelves;

    public TongueRights() {
        today = 0;
        termDays = MOST_TERM;
        blankMark = -1;
        bodies = new Body[MOST_BODIES];
        grants = new Grant[MOST_GRANTS];
        by = Arrays.copyOf(BY_FIRST, BY_ALL);
        tape = new byte[MOST_TAPE];
        ledger = new Ledger();
        offers = new Offers();
        periods = new Periods();
        waiting = new Waiting();
        acts = new Acts();
        shelves = new Shelf[MOST_SHELVES];
        for (int i = 0; i < MOST_SHELVES; i++) {
            shelves[i] = new Shelf();
        }
    }

    // ---- days, bodies

    public int days(int n) {
        if (!within(n, 1, YEAR) || today + n > LAST_DAY) {
            return BAD;
        }
        today += n;
        return today;
    }

    public int body(int kind) {
        if (!within(kind, BODY, SUB) && kind != AUTHOR) {
            return BAD;
        }
        return newBody(kind, null, 0);
    }

    public int work(int kind, int author, int day) {
        Body writer = bodyOf(author, AUTHOR);
        if ((kind != WORK && kind != FILM) || writer == null || !isDay(day)) {
            return BAD;
        }
        return newBody(kind, writer, day);
    }

    public int bundle(int author, int day) {
        Body writer = bodyOf(author, AUTHOR);
        if (writer == null || !isDay(day)) {
            return BAD;
        }
        return newBody(BUNDLE, writer, day);
    }

    public int join(int bundle, int work, int worth) {
        Body whole = bodyOf(bundle, BUNDLE);
        Body part = bodyOf(work, WORK);
        if (whole == null || part == null || part.kind == BUNDLE) {
            return BAD;
        }
        if (!within(worth, 1, 99) || whole.contains(part)) {
            return BAD;
        }
        if (whole.granted) {
            return NOT;
        }
        return whole.admit(part, worth) ? whole.parts : FULL;
    }

    public int dies(int author) {
        Body writer = bodyOf(author, AUTHOR);
        if (writer == null) {
            return BAD;
        }
        if (writer.death >= 0) {
            return NOT;
        }
        writer.death = today;
        return 1;
    }

    public int term(int v) {
        if (!within(v, 0, MOST_TERM)) {
            return BAD;
        }
        int was = termDays;
        termDays = v;
        return was;
    }

    public int ofBody(int body, int what) {
        Body b = bodyAt(body);
        if (b == null) {
            return VOID;
        }
        if (what == 0) {
            return b.kind;
        }
        if (b.isUnder(WORK)) {
            return ofWork(b, what);
        }
        return what == 1 && b.kind != BODY ? b.coins : VOID;
    }

    private int ofWork(Body w, int what) {
        switch (what) {
            case 1: return w.author == null ? VOID : w.author.number;
            case 2: return w.comes;
            case 3: return w.isFree(today, termDays) ? 1 : 0;
            case 4: return nextOf(w);
            case 5: return w.parts;
            default: return VOID;
        }
    }

    private int newBody(int kind, Body author, int day) {
        if (bodyCount >= MOST_BODIES) {
            return FULL;
        }
        bodies[bodyCount] = new Body(bodyCount, kind, author, day);
        bodyCount++;
        return bodyCount - 1;
    }

    private Body bodyAt(int n) {
        return within(n, 0, bodyCount - 1) ? bodies[n] : null;
    }

    /** A BODY of a KIND or of one under it: a KIND's word takes these in, where the document says nothing else. */
    private Body bodyOf(int n, int kind) {
        Body b = bodyAt(n);
        return b != null && b.isUnder(kind) ? b : null;
    }

    private int nextOf(Body w) {
        for (int i = w.number + 1; i < bodyCount; i++) {
            Body b = bodyAt(i);
            if (b != null && b.kind == WORK && b.author == w.author) {
                return i;
            }
        }
        return -1;
    }

    // ---- grants

    public int set(int what, int v) {
        if (!within(what, 0, BY_ALL - 1) || !within(v, BY_LEAST[what], BY_MOST[what])) {
            return BAD;
        }
        int was = by[what];
        by[what] = v;
        return was;
    }

    public int grant(int work, int house) {
        Body w = bodyOf(work, WORK);
        Body h = bodyOf(house, HOUSE);
        if (w == null || h == null || !termsHold()) {
            return BAD;
        }
        if (w.kind == BUNDLE && w.parts == 0) {
            return BAD;
        }
        if (w.isFree(today, termDays)) {
            return NOT;
        }
        if (grantCount >= MOST_GRANTS) {
            return FULL;
        }
        Grant g = new Grant(grantCount, w, h, by, today);
        g.agent = bodyOf(by[BY_AGENT], AGENT);
        g.sub = bodyOf(by[BY_SUB], SUB);
        grants[grantCount] = g;
        grantCount++;
        w.granted = true;
        payOut(g, g.advance);
        return g.number;
    }

    /** Whether what was told by set() makes a GRANT. */
    private boolean termsHold() {
        int agent = by[BY_AGENT];
        int sub = by[BY_SUB];
        boolean agentHolds = agent == -1 || bodyOf(agent, AGENT) != null;
        boolean subHolds = sub == -1 || (agent != -1 && bodyOf(sub, SUB) != null);
        return agentHolds && subHolds && by[BY_FROM] <= by[BY_TO];
    }

    public int ends(int grant) {
        Grant g = grantAt(grant);
        if (g == null) {
            return BAD;
        }
        if (g.ended >= 0) {
            return NOT;
        }
        g.ended = today;
        return 1;
    }

    public int ofGrant(int grant, int what) {
        Grant g = grantAt(grant);
        if (g == null) {
            return VOID;
        }
        switch (what) {
            case 0: return g.work.number;
            case 1: return g.house.number;
            case 2: return g.tongue;
            case 3: return g.lands;
            case 4: return g.forms;
            case 5: return g.from;
            case 6: return g.to;
            case 7: return numberOf(g.agent);
            case 8: return numberOf(g.sub);
            case 9: return g.made;
            case 10: return g.ended;
            case 11: return g.advance;
            case 12: return g.hold;
            case 13: return g.statements;
            case 14: return g.paid;
            case 15: return g.doubt ? 1 : 0;
            default: return VOID;
        }
    }

    private static int numberOf(Body b) {
        return b == null ? -1 : b.number;
    }

    public int holder(int work, int where, int day, int k) {
        Body w = bodyOf(work, WORK);
        int tongue = where / 1000;
        int land = where % 1000 / 10;
        int form = where % 10;
        if (w == null || where < 0 || tongue > MOST_TONGUE || land > MOST_LAND || form > MOST_FORM) {
            return BAD;
        }
        if (!isDay(day) || !isDay(k)) {
            return BAD;
        }
        int pair = 1 << (4 * land + form);
        for (int i = 0; i < grantCount; i++) {
            Grant g = grantAt(i);
            if (g != null && g.isOf(w) && g.tongue == tongue && (g.pairs & pair) != 0 && g.holds(day, k)) {
                return g.house.number;
            }
        }
        return NOT;
    }

    public int overlap(int work, int what) {
        Body w = bodyOf(work, WORK);
        if (w == null || !within(what, 0, 2)) {
            return BAD;
        }
        for (int i = 0; i < grantCount; i++) {
            Grant one = grantAt(i);
            int j = one != null && one.isOf(w) ? firstMeeting(one, w) : -1;
            Grant other = grantAt(j);
            if (other != null) {
                return what == 0 ? i : what == 1 ? j : Math.max(one.from, other.from);
            }
        }
        return NOT;
    }

    /** The first GRANT of a WORK behind another one that has a RIGHT with it; -1: none. */
    private int firstMeeting(Grant one, Body w) {
        for (int j = one.number + 1; j < grantCount; j++) {
            Grant other = grantAt(j);
            if (other != null && other.isOf(w) && one.meets(other)) {
                return j;
            }
        }
        return -1;
    }

    public int holes(int work, int tongue, int day) {
        Body w = bodyOf(work, WORK);
        if (w == null || !within(tongue, 0, MOST_TONGUE) || !isDay(day)) {
            return 0;
        }
        return pairsLeft(w, tongue, day);
    }

    private int pairsLeft(Body w, int tongue, int day) {
        int left = -1;
        for (int i = 0; i < grantCount; i++) {
            Grant g = grantAt(i);
            if (g != null && g.isOf(w) && g.tongue == tongue && g.holds(day, today)) {
                left &= ~g.pairs;
            }
        }
        return left;
    }

    public int offer(int bits, int coins) {
        if (bits == 0 || !within(coins, 1, MOST_COINS)) {
            return BAD;
        }
        return offers.admit(bits, coins) ? offers.size : FULL;
    }

    public int cover(int work, int tongue, int day, int what) {
        Body w = bodyOf(work, WORK);
        if (w == null || !within(tongue, 0, MOST_TONGUE) || !isDay(day)) {
            return BAD;
        }
        if (!within(what, 0, 1) || offers.size == 0) {
            return BAD;
        }
        int open = pairsLeft(w, tongue, day);
        int found = what == 0 ? offers.best(open) : offers.fewestOver(open);
        if (found < 0) {
            return NOT;
        }
        offers.size = 0;
        return found;
    }

    private Grant grantAt(int n) {
        return within(n, 0, grantCount - 1) ? grants[n] : null;
    }

    // ---- steps, statements

    public int feed(int n, int v) {
        if (!within(n, 1, 4)) {
            return BAD;
        }
        if (tapeSize + n > MOST_TAPE) {
            return FULL;
        }
        for (int i = 0; i < n; i++) {
            tape[tapeSize] = (byte) (v >> (8 * i));
            tapeSize++;
        }
        return tapeSize;
    }

    public int steps(int grant) {
        Grant g = grantAt(grant);
        if (g == null) {
            return BAD;
        }
        if (g.statements > 0) {
            return NOT;
        }
        Steps told = new Steps(tape, tapeSize);
        tapeSize = 0;
        int fault = told.readAll();
        if (fault >= 0) {
            return -100 - fault;
        }
        g.steps = told;
        return told.size;
    }

    public int rate(int grant, int n, int price, int d) {
        Grant g = grantAt(grant);
        if (g == null || !within(n, 0, 999999) || !within(price, 1, MOST_PRICE) || !isDay(d)) {
            return BAD;
        }
        return g.hundredths(n, price, d);
    }

    public int state(int grant, int sold, int back, int price) {
        Grant g = grantAt(grant);
        if (g == null || !areCopies(sold) || !areCopies(back) || !isPrice(price)) {
            return BAD;
        }
        if (today < g.from) {
            return NOT;
        }
        return tell(g, sold, back, price) ? g.statements : FULL;
    }

    private boolean tell(Grant g, int sold, int back, int price) {
        if (!ledger.admit(g.number, today, sold, back, price)) {
            return false;
        }
        g.statements++;
        return true;
    }

    public int anew(int grant, int i, int sold, int back) {
        Grant g = grantAt(grant);
        if (g == null || !within(i, 0, g.statements - 1) || !areCopies(sold) || !areCopies(back)) {
            return BAD;
        }
        return ledger.tellAgain(ledger.find(grant, i), today, sold, back) ? 1 : FULL;
    }

    public int rowOf(int grant, int shelf, int i, int n) {
        Grant g = grantAt(grant);
        Shelf s = shelfAt(shelf);
        if (g == null || s == null || !within(n, 1, MOST_THREES)) {
            return BAD;
        }
        if (today < g.from) {
            return NOT;
        }
        if (s.body != null || (s.hasRow() && s.sort != Shelf.INTS)) {
            return UNLIKE;
        }
        for (int came = 0; came < n; came++) {
            if (ledger.isFull()) {
                return came;
            }
            if (!takeThree(g, s, (long) i + 3 * came)) {
                g.doubt = true;
                return came;
            }
        }
        g.doubt = false;
        return n;
    }

    /** One STATEMENT from a place of a ROW of ints: whether it came. */
    private boolean takeThree(Grant g, Shelf s, long place) {
        if (!s.hasRow() || place < 0 || place + 2 >= s.size) {
            return false;
        }
        int at = (int) place;
        int sold = (int) s.cell(at);
        int back = (int) s.cell(at + 1);
        int price = (int) s.cell(at + 2);
        sold = sold == blankMark ? 0 : sold;
        back = back == blankMark ? 0 : back;
        price = price == blankMark ? ledger.lastPrice(g.number) : price;
        return areCopies(sold) && areCopies(back) && isPrice(price) && tell(g, sold, back, price);
    }

    public int blank(int v) {
        int was = blankMark;
        blankMark = v;
        return was;
    }

    public int ofState(int grant, int i, int k, int what) {
        Grant g = grantAt(grant);
        if (g == null || !isDay(k)) {
            return VOID;
        }
        int known = ledger.lookAt(grant, k);
        if (!within(i, 0, known - 1)) {
            return VOID;
        }
        switch (what) {
            case 0: return ledger.soldAt(i);
            case 1: return ledger.backAt(i);
            case 2: return ledger.priceAt(i);
            case 3: return ledger.copiesAt(i);
            case 4: return (int) ledger.royaltyAt(i, g);
            default: return VOID;
        }
    }

    public int due(int grant, int k, int what) {
        Grant g = grantAt(grant);
        if (g == null || !isDay(k) || !within(what, 0, 3)) {
            return VOID;
        }
        return reckon(g, k, what);
    }

    /** SUM (0), DUE (1), HELD (2) or PAYABLE (3) of a GRANT AS KNOWN on a DAY. */
    private int reckon(Grant g, int k, int what) {
        int known = ledger.lookAt(g.number, k);
        long all = 0;
        long latest = 0;
        for (int i = 0; i < known; i++) {
            latest = ledger.royaltyAt(i, g);
            all += latest;
        }
        int sum = (int) Math.max(-1999999999L, Math.min(1999999999L, all));
        int owed = Math.max(0, sum - g.advance);
        int held = latest > 0 ? (int) partUp(latest, g.hold) : 0;
        switch (what) {
            case 0: return sum;
            case 1: return owed;
            case 2: return held;
            default: return Math.max(0, Math.max(0, owed - held) - g.paid);
        }
    }

    public int pay(int grant) {
        Grant g = grantAt(grant);
        if (g == null) {
            return BAD;
        }
        int coins = reckon(g, today, 3);
        g.paid += coins;
        payOut(g, coins);
        return coins;
    }

    private void payOut(Grant g, int coins) {
        paidInAll += coins;
        g.house.coins -= coins;
        int left = coins;
        if (g.sub != null) {
            int part = (int) partUp(left, SUB_PART);
            g.sub.coins += part;
            left -= part;
        }
        if (g.agent != null) {
            int part = (int) partUp(left, AGENT_PART);
            g.agent.coins += part;
            left -= part;
        }
        g.work.receive(left);
    }

    private static long partUp(long of, int hundredths) {
        return (of * hundredths + 99) / 100;
    }

    // ---- lapses, options

    public int lapse(int grant, int daysCopies, int what) {
        Grant g = grantAt(grant);
        if (g == null || !isDaysCopies(daysCopies) || !within(what, 0, 1)) {
            return BAD;
        }
        if (g.ended >= 0) {
            return NOT;
        }
        return what == 0 ? whyLapsed(g, daysCopies) : daysToLapse(g, daysCopies / 100000);
    }

    public int lapses(int grant, int daysCopies) {
        Grant g = grantAt(grant);
        if (g == null || !isDaysCopies(daysCopies)) {
            return BAD;
        }
        int why = g.ended >= 0 ? 0 : whyLapsed(g, daysCopies);
        if (why == 0) {
            return NOT;
        }
        g.ended = today;
        return why;
    }

    private static boolean isDaysCopies(int daysCopies) {
        return within(daysCopies / 100000, 1, 3600);
    }

    private int whyLapsed(Grant g, int daysCopies) {
        if (daysToLapse(g, daysCopies / 100000) == 0) {
            return 1;
        }
        if (g.from > today - YEAR) {
            return 0;
        }
        return risenInYear(g) < daysCopies % 100000 ? 2 : 0;
    }

    private int daysToLapse(Grant g, int daysTold) {
        int known = ledger.lookAt(g.number, today);
        int since = g.from;
        for (int i = 0; i < known; i++) {
            if (ledger.copiesAt(i) > ledger.copiesAhead(i)) {
                since = ledger.dayAt(i);
            }
        }
        return Math.max(0, since + daysTold - today);
    }

    /** What the statements of the last 360 DAYS by which COPIES rose have added. */
    private int risenInYear(Grant g) {
        int known = ledger.lookAt(g.number, today);
        int risen = 0;
        for (int i = 0; i < known; i++) {
            if (ledger.dayAt(i) > today - YEAR) {
                risen += Math.max(0, ledger.copiesAt(i) - ledger.copiesAhead(i));
            }
        }
        return risen;
    }

    public int pass(int grant) {
        Grant g = grantAt(grant);
        if (g == null) {
            return BAD;
        }
        if (g.option == 0 || g.passed) {
            return NOT;
        }
        g.passed = true;
        return 1;
    }

    public int mustAsk(int work, int tongue, int day, int i) {
        Body w = bodyOf(work, WORK);
        if (w == null || !within(tongue, 0, MOST_TONGUE) || !isDay(day) || i < -1) {
            return BAD;
        }
        int found = 0;
        for (int n = 0; n < grantCount; n++) {
            Grant g = grantAt(n);
            if (g != null && g.tongue == tongue && hasOpenOption(g, w, day)) {
                if (found == i) {
                    return n;
                }
                found++;
            }
        }
        return i == -1 ? found : BAD;
    }

    private boolean hasOpenOption(Grant g, Body w, int day) {
        if (g.passed || day < w.comes || day - w.comes >= g.option) {
            return false;
        }
        return g.holds(w.comes, today) && nextOf(g.work) == w.number;
    }

    // ---- rows, offers in order

    public int period(int said, int shops) {
        if (!within(said, 0, MOST_PRINTED) || !within(shops, -1, MOST_PRINTED)) {
            return BAD;
        }
        return periods.admit(said, shops) ? periods.size : FULL;
    }

    public int wrong(int printed) {
        if (!within(printed, 0, MOST_PRINTED) || periods.size == 0) {
            return BAD;
        }
        int least = periods.leastChange(printed);
        periods.size = 0;
        return least < 0 ? NOT : least;
    }

    public int fewest(int what) {
        if (!within(what, 0, 1) || !periods.found) {
            return BAD;
        }
        return what == 0 ? periods.changed : periods.rival ? 1 : 0;
    }

    public int ask(int coins, int day, int waits) {
        if (!within(coins, 1, MOST_COINS) || !within(day, 0, 999) || !within(waits, 0, 99)) {
            return BAD;
        }
        return waiting.admit(coins, day, day + waits) ? waiting.size : FULL;
    }

    public int taken(int day, int share) {
        if (!within(day, 0, 1999) || !within(share, 0, 200) || waiting.size == 0) {
            return BAD;
        }
        int early = waiting.firstAbove(day, share);
        int found = early >= 0 ? early : waiting.greatestOn(day);
        return found >= 0 ? found : NOT;
    }

    public int unask() {
        int were = waiting.size;
        waiting.size = 0;
        return were;
    }

    // ---- acts, shelves

    public int act(int body, int act, int x) {
        acts.ran = 0;
        Body b = bodyAt(body);
        if (b == null || !within(act, 0, 3)) {
            return 0;
        }
        return acts.run(b, act, x);
    }

    public int trace(int i) {
        return within(i, 0, acts.keptCount() - 1) ? acts.kept[i] : BAD;
    }

    public int keep(int shelf, int body) {
        Shelf s = shelfAt(shelf);
        Body b = bodyAt(body);
        if (s == null || (b == null && body != -1)) {
            return BAD;
        }
        s.takeBody(b);
        return 1;
    }

    public int row(int shelf, int sort, int n) {
        Shelf s = shelfAt(shelf);
        if (s == null || !within(sort, Shelf.BYTES, Shelf.BOOLEANS) || n > Shelf.MOST) {
            return BAD;
        }
        if (n < 0) {
            return BELOW_SIZE;
        }
        s.takeRow(sort, n);
        return 1;
    }

    public int put(int shelf, int i, long v) {
        int refusal = refusalOfPlace(shelf, i);
        Shelf s = shelfAt(shelf);
        if (refusal != 0 || s == null) {
            return refusal;
        }
        s.write(i, v);
        return 1;
    }

    public long element(int shelf, int i) {
        int refusal = refusalOfPlace(shelf, i);
        Shelf s = shelfAt(shelf);
        return refusal != 0 || s == null ? Long.MIN_VALUE : s.cell(i);
    }

    /** Why element i of a SHELF can't be had; 0: it can. */
    private int refusalOfPlace(int shelf, int i) {
        Shelf s = shelfAt(shelf);
        if (s == null) {
            return BAD;
        }
        if (s.isEmpty()) {
            return MISSING;
        }
        if (!s.hasRow()) {
            return UNLIKE;
        }
        return within(i, 0, s.size - 1) ? 0 : NO_PLACE;
    }

    public int shift(int shelf, int i, int other, int j, int n) {
        Shelf from = shelfAt(shelf);
        Shelf to = shelfAt(other);
        if (from == null || to == null) {
            return BAD;
        }
        if (from.isEmpty() || to.isEmpty()) {
            return MISSING;
        }
        if (!from.hasRow() || from.sort != to.sort) {
            return UNLIKE;
        }
        if (!from.hasRange(i, n) || !to.hasRange(j, n)) {
            return NO_PLACE;
        }
        System.arraycopy(from.cells, i, to.cells, j, n);
        return n;
    }

    public int cast(int shelf, int k) {
        Shelf s = shelfAt(shelf);
        if (s == null || !within(k, BODY, FILM)) {
            return BAD;
        }
        if (s.isEmpty()) {
            return MISSING;
        }
        return s.body != null && s.body.isUnder(k) ? s.body.kind : UNLIKE;
    }

    public int count(int what) {
        switch (what) {
            case 0: return bodyCount;
            case 1: return countOf(HOUSE);
            case 2: return countOf(WORK);
            case 3: return grantCount;
            case 4: return countNotEnded();
            case 5: return ledger.size;
            case 6: return today;
            case 7: return tapeSize;
            case 8: return paidInAll;
            case 9: return acts.ran;
            default: return BAD;
        }
    }

    private int countOf(int kind) {
        int found = 0;
        for (int i = 0; i < bodyCount; i++) {
            found += bodyOf(i, kind) != null ? 1 : 0;
        }
        return found;
    }

    private int countNotEnded() {
        int found = 0;
        for (int i = 0; i < grantCount; i++) {
            Grant g = grantAt(i);
            found += g != null && g.ended < 0 ? 1 : 0;
        }
        return found;
    }

    private Shelf shelfAt(int n) {
        return within(n, 0, MOST_SHELVES - 1) ? shelves[n] : null;
    }

    // ---- what numbers may be

    private static boolean within(int v, int least, int most) {
        return v >= least && v <= most;
    }

    private static boolean isDay(int v) {
        return within(v, 0, LAST_DAY);
    }

    private static boolean areCopies(int v) {
        return within(v, 0, MOST_COPIES);
    }

    private static boolean isPrice(int v) {
        return within(v, 1, MOST_PRICE);
    }

    /** One of the BODIES, of any KIND; what its KIND has no use for stays as it is at first. */
    private static final class Body {
        static final int MOST_PARTS = 6;

        final int number;
        final int kind;
        final Body author;
        final int comes;
        int coins;
        int death;
        boolean granted;
        int parts;
        private final Body[] works;
        private final int[] worths;

        Body(int number, int kind, Body author, int comes) {
            this.number = number;
            this.kind = kind;
            this.author = author;
            this.comes = comes;
            this.death = -1;
            int room = kind == BUNDLE ? MOST_PARTS : 0;
            this.works = new Body[room];
            this.worths = new int[room];
        }

        /** Whether it is of a KIND, or of one under that. */
        boolean isUnder(int other) {
            int k = kind;
            for (int i = 0; i < ABOVE.length && k > other && k > BODY && k < ABOVE.length; i++) {
                k = ABOVE[k];
            }
            return k == other;
        }

        boolean contains(Body work) {
            for (int i = 0; i < parts && i < works.length; i++) {
                if (works[i] == work) {
                    return true;
                }
            }
            return false;
        }

        boolean admit(Body work, int worth) {
            if (parts >= works.length || parts >= worths.length) {
                return false;
            }
            works[parts] = work;
            worths[parts] = worth;
            parts++;
            return true;
        }

        /** A BUNDLE's own AUTHOR does not make it FREE: its WORKS alone do. */
        boolean isFree(int today, int term) {
            if (kind != BUNDLE) {
                return author != null && author.death >= 0 && today >= author.death + term;
            }
            for (int i = 0; i < parts && i < works.length; i++) {
                Body part = works[i];
                Body writer = part == null ? null : part.author;
                if (writer != null && writer.death >= 0 && today >= writer.death + term) {
                    return true;
                }
            }
            return false;
        }

        /** Coins come to the AUTHOR, or are parted among the AUTHORS of a BUNDLE's WORKS. */
        void receive(int sum) {
            if (kind != BUNDLE) {
                give(this, sum);
                return;
            }
            int all = 0;
            for (int i = 0; i < parts && i < worths.length; i++) {
                all += worths[i];
            }
            if (all <= 0) {
                return;
            }
            int left = sum;
            for (int i = 0; i < parts && i < worths.length; i++) {
                left -= (int) ((long) sum * worths[i] / all);
            }
            for (int i = 0; i < parts && i < worths.length && i < works.length; i++) {
                int part = (int) ((long) sum * worths[i] / all);
                give(works[i], ahead(i, sum, all) < left ? part + 1 : part);
            }
        }

        /** How many WORKS come ahead of one when what is left is given by the greatest rests. */
        private int ahead(int one, int sum, int all) {
            if (all <= 0 || one < 0 || one >= worths.length) {
                return 0;
            }
            long own = (long) sum * worths[one] % all;
            int found = 0;
            for (int i = 0; i < parts && i < worths.length; i++) {
                long rest = (long) sum * worths[i] % all;
                if (rest > own || (rest == own && i < one)) {
                    found++;
                }
            }
            return found;
        }

        private static void give(Body work, int sum) {
            if (work != null && work.author != null) {
                work.author.coins += sum;
            }
        }
    }

    private static final class Grant {
        final int number;
        final Body work;
        final Body house;
        Body agent;
        Body sub;
        final int tongue;
        final int lands;
        final int forms;
        final int pairs;
        final int from;
        final int to;
        final int advance;
        final int hold;
        final int option;
        final int made;
        int ended;
        int paid;
        int statements;
        boolean doubt;
        boolean passed;
        Steps steps;

        Grant(int number, Body work, Body house, int[] by, int today) {
            this.number = number;
            this.work = work;
            this.house = house;
            tongue = by[BY_TONGUE];
            lands = by[BY_LANDS];
            forms = by[BY_FORMS];
            from = by[BY_FROM];
            to = by[BY_TO];
            advance = by[BY_ADVANCE];
            hold = by[BY_HOLD];
            option = by[BY_OPTION];
            made = today;
            ended = -1;
            pairs = pairsOf(lands, forms);
        }

        private static int pairsOf(int lands, int forms) {
            int bits = 0;
            for (int land = 0; land <= MOST_LAND; land++) {
                if ((lands >> land & 1) != 0) {
                    bits |= forms << (4 * land);
                }
            }
            return bits;
        }

        boolean isOf(Body w) {
            return work == w || work.contains(w);
        }

        boolean holds(int day, int known) {
            boolean endKnown = ended >= 0 && ended <= known;
            return made <= known && from <= day && day <= to && !(endKnown && day >= ended);
        }

        /** Whether both have a TONGUE, LAND, FORM and DAY, with every end known. */
        boolean meets(Grant other) {
            boolean sameRights = tongue == other.tongue && (pairs & other.pairs) != 0;
            return sameRights && Math.max(from, other.from) <= Math.min(lastHeld(), other.lastHeld());
        }

        private int lastHeld() {
            return ended < 0 ? to : Math.min(to, ended - 1);
        }

        int hundredths(int copy, int price, int day) {
            return steps == null ? Steps.WITHOUT : steps.valueOf(steps.stepOf(copy), this, price, day);
        }

        /** What copies a to b - 1 give, cut by STEP. */
        long earned(int a, int b, int price, int day) {
            if (steps == null) {
                return (long) (b - a) * price * Steps.WITHOUT / 100;
            }
            long all = 0;
            for (int i = 0; i < steps.size; i++) {
                int many = Math.min(b, steps.endOf(i)) - Math.max(a, steps.startOf(i));
                if (many > 0) {
                    all += (long) many * price * steps.valueOf(i, this, price, day) / 100;
                }
            }
            return all;
        }
    }

    /** The STEPS of a GRANT, read from its TEXT; one reader both finds the FAULT and reckons. */
    private static final class Steps {
        static final int WITHOUT = 10;
        private static final int MOST_OPEN = 6, START_DIGITS = 6, NUMBER_DIGITS = 4;

        private final byte[] text;
        private final int[] starts;
        private final int[] places;
        int size;
        private int at;
        private boolean broken;
        private int price;
        private int years;
        private int form;
        private int landCount;
        /** What stands in each ( that is open: the sum so far, the product so far, and the signs ahead of both. */
        private int open;
        private final int[] sums = new int[MOST_OPEN + 1];
        private final int[] products = new int[MOST_OPEN + 1];
        private final int[] sumSigns = new int[MOST_OPEN + 1];
        private final int[] productSigns = new int[MOST_OPEN + 1];

        Steps(byte[] tape, int length) {
            text = Arrays.copyOf(tape, Math.max(0, length));
            int most = 1;
            for (int i = 0; i < text.length; i++) {
                most += text[i] == ';' ? 1 : 0;
            }
            starts = new int[most];
            places = new int[most];
        }

        /** The FAULT; -1: none. */
        int readAll() {
            boolean more = true;
            for (int i = 0; i < starts.length && more; i++) {
                readStep();
                more = !broken && isNext(';');
                at += more ? 1 : 0;
            }
            return broken || at < text.length ? at : -1;
        }

        private void readStep() {
            int first = at;
            int start = readNumber(START_DIGITS);
            boolean rises = size == 0 ? start == 0 : start > startOf(size - 1);
            if (!rises) {
                at = first;
            }
            if (at == first || !isNext(':') || size >= starts.length || size >= places.length) {
                broken = true;
                return;
            }
            at++;
            starts[size] = start;
            places[size] = at;
            size++;
            readSum();
        }

        private boolean isNext(char sign) {
            return at >= 0 && at < text.length && text[at] == sign;
        }

        private int readNumber(int most) {
            int value = 0;
            for (int i = 0; i < most && at >= 0 && at < text.length; i++) {
                int digit = text[at] - '0';
                if (digit < 0 || digit > 9) {
                    return value;
                }
                value = value * 10 + digit;
                at++;
            }
            return value;
        }

        /** Reads an E up to the first byte that is none of it, without recursion. */
        private int readSum() {
            open = 0;
            startSum();
            boolean wanted = true;
            for (int i = 0; i < text.length && at >= 0 && at < text.length && !broken; i++) {
                if (wanted) {
                    wanted = !readOperand();
                } else if (isNext('+') || isNext('-')) {
                    closeProduct();
                    sumSigns[open] = text[at];
                    at++;
                    wanted = true;
                } else if (isNext('*') || isNext('/')) {
                    productSigns[open] = text[at];
                    at++;
                    wanted = true;
                } else if (isNext(')') && open > 0) {
                    closeProduct();
                    open--;
                    take(sums[open + 1]);
                    at++;
                } else {
                    break;
                }
            }
            broken = broken || wanted || open > 0;
            closeProduct();
            return sums[open];
        }

        /** Whether a whole O was read; a ( that opens is none as yet. */
        private boolean readOperand() {
            int first = at;
            int number = readNumber(NUMBER_DIGITS);
            if (at > first) {
                take(number);
                return true;
            }
            if (isNext('(') && open < MOST_OPEN) {
                at++;
                open++;
                startSum();
                return false;
            }
            if (!isNext('p') && !isNext('y') && !isNext('f') && !isNext('l')) {
                broken = true;
                return false;
            }
            take(isNext('p') ? price : isNext('y') ? years : isNext('f') ? form : landCount);
            at++;
            return true;
        }

        private void startSum() {
            sums[open] = 0;
            sumSigns[open] = '+';
            products[open] = 1;
            productSigns[open] = '*';
        }

        private void take(int value) {
            if (productSigns[open] == '*') {
                products[open] *= value;
            } else {
                products[open] = value == 0 ? 0 : products[open] / value;
            }
        }

        private void closeProduct() {
            sums[open] += sumSigns[open] == '+' ? products[open] : -products[open];
            products[open] = 1;
            productSigns[open] = '*';
        }

        int startOf(int i) {
            return i >= 0 && i < size && i < starts.length ? starts[i] : 0;
        }

        int endOf(int i) {
            return i + 1 < size ? startOf(i + 1) : Integer.MAX_VALUE;
        }

        int stepOf(int copy) {
            int found = 0;
            for (int i = 0; i < size; i++) {
                if (startOf(i) <= copy) {
                    found = i;
                }
            }
            return found;
        }

        /** E of a STEP for a GRANT at a price on a DAY. */
        int valueOf(int step, Grant g, int priceTold, int day) {
            if (step < 0 || step >= size || step >= places.length) {
                return 0;
            }
            price = priceTold;
            years = (day - g.from) / YEAR;
            form = Integer.numberOfTrailingZeros(g.forms);
            landCount = Integer.bitCount(g.lands);
            broken = false;
            at = places[step];
            return Math.max(0, Math.min(100, readSum()));
        }
    }

    /** All STATEMENTS as they were told, and those of one GRANT as they are known on a DAY. */
    private static final class Ledger {
        private static final int MOST = 400, MOST_AGAIN = 200;

        int size;
        private final int[] owner = new int[MOST];
        private final int[] told = new int[MOST];
        private final int[] sold = new int[MOST];
        private final int[] back = new int[MOST];
        private final int[] price = new int[MOST];
        private int again;
        private final int[] againOf = new int[MOST_AGAIN];
        private final int[] againTold = new int[MOST_AGAIN];
        private final int[] againSold = new int[MOST_AGAIN];
        private final int[] againBack = new int[MOST_AGAIN];
        private int known;
        private final int[] placeOf = new int[MOST];
        private final int[] knownSold = new int[MOST];
        private final int[] knownBack = new int[MOST];
        private final int[] copies = new int[MOST];

        boolean isFull() {
            return size >= MOST;
        }

        boolean admit(int grant, int day, int soldTold, int backTold, int priceTold) {
            if (isFull()) {
                return false;
            }
            owner[size] = grant;
            told[size] = day;
            sold[size] = soldTold;
            back[size] = backTold;
            price[size] = priceTold;
            size++;
            return true;
        }

        boolean tellAgain(int statement, int day, int soldTold, int backTold) {
            if (again >= MOST_AGAIN) {
                return false;
            }
            againOf[again] = statement;
            againTold[again] = day;
            againSold[again] = soldTold;
            againBack[again] = backTold;
            again++;
            return true;
        }

        /** The place of STATEMENT i of a GRANT among all; -1: none. */
        int find(int grant, int i) {
            int found = 0;
            for (int s = 0; s < size; s++) {
                if (owner[s] == grant) {
                    if (found == i) {
                        return s;
                    }
                    found++;
                }
            }
            return -1;
        }

        int lastPrice(int grant) {
            int last = PRICE_WITHOUT;
            for (int s = 0; s < size; s++) {
                last = owner[s] == grant ? price[s] : last;
            }
            return last;
        }

        /** Takes up the STATEMENTS of a GRANT AS KNOWN on a DAY for the calls below: how many. */
        int lookAt(int grant, int day) {
            known = 0;
            for (int s = 0; s < size; s++) {
                if (owner[s] == grant && told[s] <= day) {
                    placeOf[known] = s;
                    known++;
                }
                knownSold[s] = sold[s];
                knownBack[s] = back[s];
            }
            for (int t = 0; t < again; t++) {
                int s = againOf[t];
                if (againTold[t] <= day && s >= 0 && s < MOST) {
                    knownSold[s] = againSold[t];
                    knownBack[s] = againBack[t];
                }
            }
            int all = 0;
            for (int i = 0; i < known; i++) {
                all += soldAt(i) - backAt(i);
                copies[i] = Math.max(0, all);
            }
            return known;
        }

        private int place(int i) {
            return i >= 0 && i < known ? placeOf[i] : 0;
        }

        int soldAt(int i) {
            return knownSold[place(i)];
        }

        int backAt(int i) {
            return knownBack[place(i)];
        }

        int priceAt(int i) {
            return price[place(i)];
        }

        int dayAt(int i) {
            return told[place(i)];
        }

        int copiesAt(int i) {
            return i >= 0 && i < known ? copies[i] : 0;
        }

        int copiesAhead(int i) {
            return copiesAt(i - 1);
        }

        long royaltyAt(int i, Grant g) {
            int a = copiesAhead(i);
            int b = copiesAt(i);
            long coins = g.earned(Math.min(a, b), Math.max(a, b), priceAt(i), dayAt(i));
            return b < a ? -coins : coins;
        }
    }

    /** OFFERS for pairs of LAND and FORM. */
    private static final class Offers {
        private static final int MOST = 10;

        int size;
        private final int[] pairs = new int[MOST];
        private final int[] coins = new int[MOST];

        boolean admit(int bits, int coinsTold) {
            if (size >= MOST) {
                return false;
            }
            pairs[size] = bits;
            coins[size] = coinsTold;
            size++;
            return true;
        }

        /** BEST for the HOLES. The sets go by as bits from the least on, so that a later one must be better. */
        int best(int open) {
            int found = 0;
            int foundSum = 0;
            int foundPairs = 0;
            for (int set = 1; set < 1 << size; set++) {
                int sum = fits(set, open) ? sumOf(set) : -1;
                int many = Integer.bitCount(pairsOf(set));
                if (sum > foundSum || (sum == foundSum && many > foundPairs)) {
                    found = set;
                    foundSum = sum;
                    foundPairs = many;
                }
            }
            return found;
        }

        /** COVER of the HOLES; -1: there is none. */
        int fewestOver(int open) {
            int found = -1;
            int foundSum = 0;
            int foundMany = size + 1;
            for (int set = 0; set < 1 << size; set++) {
                int many = Integer.bitCount(set);
                boolean covers = many <= foundMany && (open & ~pairsOf(set)) == 0;
                int sum = covers ? sumOf(set) : 0;
                if (covers && (many < foundMany || sum > foundSum)) {
                    found = set;
                    foundSum = sum;
                    foundMany = many;
                }
            }
            return found;
        }

        private boolean fits(int set, int open) {
            int left = open;
            for (int i = 0; i < size && i < MOST; i++) {
                if ((set >> i & 1) != 0) {
                    if ((pairs[i] & ~left) != 0) {
                        return false;
                    }
                    left &= ~pairs[i];
                }
            }
            return true;
        }

        private int pairsOf(int set) {
            int all = 0;
            for (int i = 0; i < size && i < MOST; i++) {
                all |= (set >> i & 1) != 0 ? pairs[i] : 0;
            }
            return all;
        }

        private int sumOf(int set) {
            int all = 0;
            for (int i = 0; i < size && i < MOST; i++) {
                all += (set >> i & 1) != 0 ? coins[i] : 0;
            }
            return all;
        }
    }

    /** Periods of SAID and SHOPS, and what the latest wrong() found. */
    private static final class Periods {
        private static final int MOST = 12;

        int size;
        boolean found;
        int changed;
        boolean rival;
        private final int[] said = new int[MOST];
        private final int[] shops = new int[MOST];
        private final int[] slack = new int[MOST];
        private int slackCount;

        boolean admit(int saidTold, int shopsTold) {
            if (size >= MOST) {
                return false;
            }
            said[size] = saidTold;
            shops[size] = Math.max(0, shopsTold);
            size++;
            return true;
        }

        /** LEAST WRONG; -1: SHOPS have more than PRINTED. */
        int leastChange(int printed) {
            int sold = 0;
            int all = 0;
            int raised = 0;
            int mustRise = 0;
            slackCount = 0;
            for (int i = 0; i < size && i < MOST; i++) {
                sold += shops[i];
                all += Math.max(said[i], shops[i]);
                raised += Math.max(0, shops[i] - said[i]);
                mustRise += shops[i] > said[i] ? 1 : 0;
                addSlack(said[i] - shops[i]);
            }
            if (sold > printed) {
                return -1;
            }
            int over = Math.max(0, all - printed);
            findFewest(mustRise, over);
            return raised + over;
        }

        /** Keeps by how much SAID may fall, the greatest first. */
        private void addSlack(int by) {
            if (by <= 0 || slackCount >= MOST) {
                return;
            }
            int at = slackCount;
            while (at > 0 && slack[at - 1] < by) {
                slack[at] = slack[at - 1];
                at--;
            }
            slack[at] = by;
            slackCount++;
        }

        /** Those that must rise are in every set; of the others the ones that can fall most are the fewest. */
        private void findFewest(int mustRise, int over) {
            int fallen = 0;
            int many = 0;
            while (many < slackCount && many < MOST && fallen < over) {
                fallen += slack[many];
                many++;
            }
            found = true;
            changed = mustRise + many;
            boolean another = many > 0 && many < slackCount && many < MOST;
            rival = another && fallen - slack[many - 1] + slack[many] >= over;
        }
    }

    /** OFFERS IN ORDER. */
    private static final class Waiting {
        private static final int MOST = 8;

        int size;
        private final int[] coins = new int[MOST];
        private final int[] asked = new int[MOST];
        private final int[] last = new int[MOST];

        boolean admit(int coinsTold, int day, int lastDay) {
            if (size >= MOST) {
                return false;
            }
            coins[size] = coinsTold;
            asked[size] = day;
            last[size] = lastDay;
            size++;
            return true;
        }

        /** Of those that do not wait till a DAY the first that is above all others by a share; -1: none. */
        int firstAbove(int day, int share) {
            int found = -1;
            int foundLast = day;
            for (int i = 0; i < size && i < MOST; i++) {
                if (last[i] < foundLast && coins[i] * 100 > (100 + share) * greatestOther(i)) {
                    found = i;
                    foundLast = last[i];
                }
            }
            return found;
        }

        private int greatestOther(int one) {
            int greatest = 0;
            for (int i = 0; i < size && i < MOST && one >= 0 && one < MOST; i++) {
                if (i != one && asked[i] <= last[one]) {
                    greatest = Math.max(greatest, coins[i]);
                }
            }
            return greatest;
        }

        int greatestOn(int day) {
            int found = -1;
            int greatest = 0;
            for (int i = 0; i < size && i < MOST; i++) {
                if (asked[i] <= day && last[i] >= day && coins[i] > greatest) {
                    found = i;
                    greatest = coins[i];
                }
            }
            return found;
        }
    }

    /** ACTS: each is sought from a KIND on upward; from the BODY's own KIND, or from the one above for super. */
    private static final class Acts {
        private static final int MOST_KEPT = 24;

        int ran;
        final int[] kept = new int[MOST_KEPT];
        private int own;
        private int number;

        int keptCount() {
            return Math.min(ran, MOST_KEPT);
        }

        int run(Body b, int act, int x) {
            own = b.kind;
            number = b.number;
            switch (act) {
                case 0: return grants(own, x);
                case 1: return reads(own, x);
                case 2: return owes(own, x);
                default: return tells(own, x);
            }
        }

        private void begin(int bodyOfAct) {
            if (ran < MOST_KEPT) {
                kept[ran] = bodyOfAct;
            }
            ran++;
        }

        private static int above(int kind) {
            return kind > BODY && kind < ABOVE.length ? ABOVE[kind] : BODY;
        }

        private int grants(int kind, int x) {
            if (kind <= BODY) {
                begin(1);
                return x + number * 2;
            }
            switch (kind) {
                case HOUSE:
                    begin(20);
                    return grants(above(kind), x) + 5;
                case AUTHOR:
                    begin(70);
                    return grants(above(kind), x) * 3;
                default:
                    return grants(above(kind), x);
            }
        }

        private int reads(int kind, int x) {
            if (kind <= BODY) {
                begin(10);
                return grants(own, x) - 1;
            }
            switch (kind) {
                case AGENT:
                    begin(30);
                    return reads(above(kind), x) * 2;
                case SUB:
                    begin(40);
                    return reads(above(kind), x + 1);
                default:
                    return reads(above(kind), x);
            }
        }

        private int owes(int kind, int x) {
            if (kind <= BODY) {
                begin(11);
                return x ^ number;
            }
            switch (kind) {
                case SUB:
                    begin(41);
                    return owes(above(kind), x) - grants(own, 0);
                case WORK:
                    begin(50);
                    return -owes(above(kind), x);
                case BUNDLE:
                    begin(61);
                    return owes(above(kind), x) + reads(own, 2);
                default:
                    return owes(above(kind), x);
            }
        }

        private int tells(int kind, int x) {
            if (kind <= BODY) {
                begin(2);
                return owes(own, reads(own, x));
            }
            switch (kind) {
                case BUNDLE:
                    begin(60);
                    return tells(above(kind), x) ^ 3;
                case FILM:
                    begin(80);
                    return tells(above(kind), x + 2);
                default:
                    return tells(above(kind), x);
            }
        }
    }

    /** A SHELF: nothing, a BODY, or a ROW whose elements are kept as longs of their sort's width. */
    private static final class Shelf {
        static final int BYTES = 0, SHORTS = 1, INTS = 2, BOOLEANS = 4, MOST = 60;
        private static final int NO_ROW = -1;

        Body body;
        int sort = NO_ROW;
        int size;
        final long[] cells = new long[MOST];

        boolean isEmpty() {
            return body == null && sort == NO_ROW;
        }

        boolean hasRow() {
            return sort != NO_ROW;
        }

        /** Holds a BODY; null: nothing. */
        void takeBody(Body b) {
            body = b;
            sort = NO_ROW;
            size = 0;
        }

        void takeRow(int sortTold, int n) {
            body = null;
            sort = sortTold;
            size = Math.max(0, Math.min(MOST, n));
            Arrays.fill(cells, 0L);
        }

        long cell(int i) {
            return i >= 0 && i < size ? cells[i] : 0;
        }

        void write(int i, long v) {
            if (i >= 0 && i < size) {
                cells[i] = cut(v);
            }
        }

        private long cut(long v) {
            switch (sort) {
                case BYTES: return (byte) v;
                case SHORTS: return (short) v;
                case INTS: return (int) v;
                case BOOLEANS: return v != 0 ? 1 : 0;
                default: return v;
            }
        }

        boolean hasRange(int i, int n) {
            return n >= 0 && i >= 0 && i <= size && n <= size - i;
        }
    }
}
