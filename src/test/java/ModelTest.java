import java.lang.reflect.Method;
import java.util.ArrayList;
import java.util.HashMap;
import java.util.List;
import java.util.Map;
import java.util.Random;

/** Holds the class against the plain model: the same random calls on both, answer by answer (all promises). */
public final class ModelTest {
    private static final int RUNS = 1500, CALLS = 512;

    /**
     * How often a call comes, its name, and where each argument mostly comes from: a range, or one that is there: W a
     * WORK, V a WORK or FILM, B a BUNDLE, H a HOUSE, U an AUTHOR, X any BODY, G a GRANT; T TODAY or near it, R a RIGHT.
     */
    private static final String[] CALLS_MADE = {
        "2 days 1..20", "2 days 1..130", "1 body 0..3", "1 body 6..6", "1 work 4..4 U 0..500", "1 work 7..7 U T",
        "1 bundle U 0..300", "3 join B V 1..5", "1 term 0..900", "3 ofBody X 0..5",
        "3 set 0..0 0..1", "2 set 1..1 1..255", "2 set 2..2 1..15", "2 set 3..3 T", "2 set 3..3 0..0", "2 set 4..4 T",
        "3 set 4..4 300..3599", "1 set 5..5 4..5", "1 set 6..6 5..5", "4 set 5..6 -1..-1",
        "1 set 5..6 X",
        "2 set 7..7 0..3000", "2 set 8..8 0..50", "2 set 9..9 0..720", "4 grant W H", "4 grant B H", "1 grant V X",
        "1 ends G", "3 ofGrant G 0..15", "4 holder W R T 0..3599", "4 holder W R T T",
        "1 holder W 0..2200 T T", "4 overlap W 0..2",
        "4 holes W 0..1 T", "1 offer -2147483648..2147483647 1..9", "3 offer 1..255 1..4", "1 offer -2..-1 1..4",
        "1 offer -256..-1 1..4", "2 cover W 0..1 T 0..1", "2 rate G 0..100 1..300 0..3599", "3 state G 0..300 0..50 1..400",
        "6 state G 0..90 0..90 1..400", "1 state G 0..20000 0..9000 1..9999", "4 anew G 0..4 0..200 0..100",
        "4 rowOf G 0..1 0..20 1..4", "1 rowOf G 0..5 -1..20 1..20", "1 blank -1..3", "6 ofState G 0..6 T 0..4",
        "6 due G T 0..3", "4 pay G", "4 lapse G 100000..20000300 0..1", "2 lapse G 36000000..72000300 0..0",
        "1 lapses G 10000000..36000300", "1 pass G",
        "3 mustAsk W 0..1 T -1..0", "6 mustAsk W 0..1 0..400 -1..1", "4 period 0..40 -1..30",
        "1 wrong 0..200", "2 wrong 40..90", "2 fewest 0..1", "4 ask 1..50 0..30 0..20", "4 taken 0..50 0..200", "1 unask",
        "3 act X 0..3 -99..99", "3 trace 0..9", "1 keep 2..5 X", "1 keep 0..5 -1..-1", "1 row 2..5 0..4 -1..60",
        "1 row 0..1 2..2 20..60", "3 put 0..5 0..30 -9..300", "6 put 0..1 0..30 1..90", "3 element 0..5 0..30",
        "2 shift 0..1 0..9 0..1 0..9 0..9", "1 shift 0..5 0..9 0..5 0..9 -1..9", "2 cast 0..5 0..7", "3 count 0..9",
    };

    /** AUTHORS 0 and 1, HOUSES 2 and 3, an AGENT 4, a SUB 5, and WORKS, FILMS and BUNDLES of both AUTHORS. */
    private static final String[] START = {
        "body 6", "body 6", "body 1", "body 1", "body 2", "body 3", "work 4 0 0", "work 4 1 10", "work 7 0 30", "bundle 0 5",
        "work 4 0 60", "work 4 1 90", "bundle 1 20", "work 4 0 200", "join 9 6 3", "join 9 7 5", "join 12 6 1",
        "join 12 8 1", "row 0 2 40", "row 1 2 20", "set 4 900",
        "put 0 0 40", "put 0 1 5", "put 0 2 90", "put 0 3 20", "put 0 4 -1", "put 0 5 -1", "put 0 6 9", "put 0 7 70",
        "put 0 8 30", "put 0 9 3", "put 0 10 3", "put 0 11 3", "put 0 12 300", "put 0 13 10", "put 0 14 300",
    };

    private final Random random;
    private final TongueRights mine = new TongueRights();
    private final Model plain = new Model();
    private final Map<String, Method> ofMine;
    private final Map<String, Method> ofPlain;
    private final List<String> trail = new ArrayList<>();

    private ModelTest(int seed, Map<String, Method> ofMine, Map<String, Method> ofPlain) {
        random = new Random(seed);
        this.ofMine = ofMine;
        this.ofPlain = ofPlain;
    }

    public static void main(String[] args) throws Exception {
        int runs = args.length > 0 ? Integer.parseInt(args[0]) : RUNS;
        Map<String, Method> ofMine = methods(TongueRights.class);
        Map<String, Method> ofPlain = methods(Model.class);
        List<String[]> bag = new ArrayList<>();
        for (String call : CALLS_MADE) {
            String[] words = call.split(" ");
            for (int i = 0; i < Integer.parseInt(words[0]); i++) {
                bag.add(words);
            }
        }
        boolean same = true;
        for (int seed = 0; seed < runs && same; seed++) {
            same = new ModelTest(seed, ofMine, ofPlain).run(bag);
        }
        Check.holds("every run is as the model has it", same);
        Check.end("ModelTest");
    }

    private static Map<String, Method> methods(Class<?> of) {
        Map<String, Method> found = new HashMap<>();
        for (Method m : of.getMethods()) {
            if (m.getDeclaringClass() == of) {
                found.put(m.getName(), m);
            }
        }
        return found;
    }

    private boolean run(List<String[]> bag) throws Exception {
        List<Object[]> next = new ArrayList<>();
        for (String call : START) {
            String[] words = call.split(" ");
            Object[] row = new Object[words.length];
            row[0] = words[0];
            for (int i = 1; i < words.length; i++) {
                boolean isLong = words[0].equals("put") && i == 3;
                row[i] = isLong ? (Object) Long.valueOf(words[i]) : (Object) Integer.valueOf(words[i]);
            }
            next.add(row);
        }
        for (int calls = 0; calls < CALLS; calls += next.size()) {
            for (Object[] call : calls == 0 ? next : (next = nextCalls(bag))) {
                if (!same(call)) {
                    return false;
                }
            }
        }
        return true;
    }

    private boolean same(Object[] call) throws Exception {
        Object[] arguments = new Object[call.length - 1];
        System.arraycopy(call, 1, arguments, 0, arguments.length);
        Object got = ofMine.get(call[0]).invoke(mine, arguments);
        Object due = ofPlain.get(call[0]).invoke(plain, arguments);
        trail.add(java.util.Arrays.toString(call) + " = " + got);
        if (!got.equals(due)) {
            trail.forEach(System.out::println);
            System.out.println("the model has " + due);
            return false;
        }
        return true;
    }

    private List<Object[]> nextCalls(List<String[]> bag) {
        int how = random.nextInt(100);
        if (how < 2) {
            return textCalls();
        }
        List<Object[]> one = new ArrayList<>();
        if (how == 2) {
            one.add(new Object[] {random.nextInt(6) == 0 ? "dies" : "steps", random.nextInt(2)});
            return one;
        }
        String[] words = bag.get(random.nextInt(bag.size()));
        Class<?>[] types = ofMine.get(words[1]).getParameterTypes();
        Object[] call = new Object[types.length + 1];
        call[0] = words[1];
        for (int i = 0; i < types.length; i++) {
            int v = argument(words[2 + i]);
            call[i + 1] = types[i] == long.class ? (Object) (random.nextInt(9) == 0 ? random.nextLong() : (long) v) : v;
        }
        one.add(call);
        return one;
    }

    private int argument(String from) {
        switch (from) {
            case "W": return body(4, 5, 7);
            case "V": return body(4, 7);
            case "B": return body(5);
            case "H": return body(1, 2, 3);
            case "U": return body(6);
            case "X": return between(0, plain.count(0) - 1);
            case "G": return between(0, Math.min(7, plain.count(3) - 1));
            case "T": return between(Math.max(0, plain.count(6) - 60), Math.min(3599, plain.count(6) + 60));
            case "R": return 1000 * random.nextInt(2) + 10 * random.nextInt(8) + random.nextInt(4);
            default:
                String[] ends = from.split("\\.\\.");
                return between(Integer.parseInt(ends[0]), Integer.parseInt(ends[1]));
        }
    }

    private int body(int... kinds) {
        for (int tries = 0; tries < 100; tries++) {
            int n = between(0, plain.count(0) - 1);
            for (int kind : kinds) {
                if (plain.ofBody(n, 0) == kind) {
                    return n;
                }
            }
        }
        return 0;
    }

    /** Mostly within, now and then at an end, beyond one, or far off. */
    private int between(int least, int most) {
        int how = random.nextInt(200);
        if (how == 0) {
            return random.nextInt();
        }
        if (how == 1) {
            return least - 1;
        }
        if (how == 2) {
            return most + 1;
        }
        if (how == 3) {
            return random.nextInt(5) - 2;
        }
        if (how < 20) {
            return how % 2 == 0 ? least : most;
        }
        return (int) (least + Math.floorMod(random.nextLong(), Math.max(1L, (long) most - least + 1)));
    }

    /** A new GRANT, a TEXT, sometimes with a fault, byte by byte to THE TAPE, and then to that GRANT. */
    private List<Object[]> textCalls() {
        StringBuilder text = new StringBuilder("0:");
        addSum(text, 0);
        int start = 0;
        for (int i = random.nextInt(4); i > 0; i--) {
            start += random.nextInt(60);
            text.append(';').append(start).append(':');
            addSum(text, 0);
        }
        if (random.nextInt(2) == 0) {
            spoil(text);
        }
        List<Object[]> calls = new ArrayList<>();
        calls.add(new Object[] {"grant", body(4, 5, 7), body(1)});
        for (int i = 0; i < text.length(); i += 4) {
            int n = Math.min(4, text.length() - i);
            int v = random.nextInt();
            for (int j = 0; j < n; j++) {
                v = v & ~(255 << (8 * j)) | text.charAt(i + j) << (8 * j);
            }
            calls.add(new Object[] {"feed", n, v});
        }
        calls.add(new Object[] {"steps", plain.count(3)});
        calls.add(new Object[] {"steps", plain.count(3) - 1});
        return calls;
    }

    private void spoil(StringBuilder text) {
        String signs = "0123456789pyfl+-*/();: \u00ffx";
        int at = random.nextInt(text.length());
        char sign = signs.charAt(random.nextInt(signs.length()));
        switch (random.nextInt(3)) {
            case 0: text.setCharAt(at, sign); break;
            case 1: text.insert(at, sign); break;
            default: text.setLength(at); break;
        }
    }

    private void addSum(StringBuilder text, int open) {
        for (int i = random.nextInt(4); i >= 0; i--) {
            int how = random.nextInt(6);
            if (how == 0 && open < 7) {
                text.append('(');
                addSum(text, open + 1);
                text.append(')');
            } else if (how < 4) {
                text.append(random.nextInt(random.nextBoolean() ? 30 : random.nextInt(8) == 0 ? 99999 : 9999));
            } else {
                text.append("pyfl".charAt(random.nextInt(4)));
            }
            if (i > 0) {
                text.append("+-*/".charAt(random.nextInt(4)));
            }
        }
    }
}
