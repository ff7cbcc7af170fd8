import java.lang.reflect.Method;
import java.util.ArrayList;
import java.util.HashMap;
import java.util.List;
import java.util.Map;
import java.util.Random;

/** Holds the class against the plain model: the same random calls on both, answer by answer (all promises). */
public final class ModelTest {
    private static final int RUNS = 1500, CALLS = 512;

    /** A call with, for each argument, the range from which it mostly comes; the first number is how often it comes. */
    private static final String[] CALLS_MADE = {
        "3 days 1 90", "2 body 0 3", "2 body 6 6", "3 work 4 4 0 30 0 500", "1 work 7 7 0 30 0 500", "1 bundle 0 30 0 500",
        "3 join 0 40 0 40 1 5", "1 dies 0 30", "1 term 0 600", "4 ofBody 0 40 0 5",
        "2 set 0 0 0 2", "2 set 1 1 1 255", "2 set 2 2 1 15", "2 set 3 3 0 400", "2 set 4 4 200 3599", "1 set 5 5 -1 40",
        "1 set 6 6 -1 40", "1 set 5 6 -1 -1", "2 set 7 7 0 3000", "2 set 8 8 0 50", "2 set 9 9 0 720", "1 set 0 9 0 50",
        "8 grant 0 40 0 40", "1 ends 0 12", "4 ofGrant 0 12 0 15", "4 holder 0 40 0 2080 0 900 0 900", "3 overlap 0 40 0 2",
        "3 holes 0 40 0 2 0 900", "4 offer -2147483648 2147483647 1 9", "6 offer 1 255 1 4", "2 cover 0 40 0 2 0 900 0 1",
        "2 feed 1 4 0 99", "4 TEXT", "3 steps 0 12", "3 rate 0 12 0 500 1 300 0 3599", "9 state 0 12 0 300 0 200 1 400",
        "1 state 0 12 0 20000 0 9000 1 9999", "3 anew 0 12 0 6 0 300 0 100", "3 rowOf 0 12 0 5 -1 20 1 6", "1 blank -1 3",
        "5 ofState 0 12 0 8 0 1500 0 4", "6 due 0 12 0 1500 0 3", "3 pay 0 12", "4 lapse 0 12 100000 36000300 0 1",
        "1 lapse 0 12 100000 360099999 0 1", "1 lapses 0 12 10000000 36000300", "1 pass 0 12",
        "4 mustAsk 0 40 0 2 0 900 -1 3", "6 period 0 40 -1 30", "2 wrong 0 200", "2 fewest 0 1", "4 ask 1 50 0 30 0 20",
        "3 taken 0 50 0 200", "1 unask", "5 act 0 40 0 3 -99 99", "3 trace 0 12", "2 keep 0 5 -1 40", "2 row 0 5 0 4 -1 60",
        "3 row 0 2 2 2 20 60", "3 put 0 5 0 30 -9 99", "5 put 0 2 0 30 1 90", "3 element 0 5 0 30",
        "3 shift 0 5 0 9 0 5 0 9 -1 9", "2 cast 0 5 0 7", "3 count 0 9",
    };

    private final Random random;
    private final TongueRights mine = new TongueRights();
    private final Model plain = new Model();
    private final List<String> trail = new ArrayList<>();

    private ModelTest(int seed) {
        random = new Random(seed);
    }

    public static void main(String[] args) throws Exception {
        Map<String, Method> ofMine = methods(TongueRights.class);
        Map<String, Method> ofPlain = methods(Model.class);
        List<String[]> bag = new ArrayList<>();
        for (String call : CALLS_MADE) {
            String[] words = call.split(" ");
            for (int i = 0; i < Integer.parseInt(words[0]); i++) {
                bag.add(words);
            }
        }
        boolean same = true;
        for (int seed = 0; seed < RUNS && same; seed++) {
            same = new ModelTest(seed).run(bag, ofMine, ofPlain);
        }
        Check.holds("every run is as the model has it", same);
        Check.end("ModelTest");
    }

    private static Map<String, Method> methods(Class<?> of) {
        Map<String, Method> found = new HashMap<>();
        for (Method m : of.getMethods()) {
            if (m.getDeclaringClass() == of) {
                found.put(m.getName(), m);
            }
        }
        return found;
    }

    private boolean run(List<String[]> bag, Map<String, Method> ofMine, Map<String, Method> ofPlain) throws Exception {
        List<Object[]> start = new ArrayList<>();
        for (int kind : new int[] {6, 1, 2, 3, 6}) {
            start.add(new Object[] {"body", kind});
        }
        start.add(new Object[] {"work", 4, 0, 0});
        start.add(new Object[] {"set", 4, 900});
        start.add(new Object[] {"grant", 5, 1});
        int calls = 0;
        while (calls < CALLS) {
            List<Object[]> next = calls == 0 ? start : nextCalls(bag.get(random.nextInt(bag.size())), ofMine);
            for (Object[] call : next) {
                calls++;
                if (!same(call, ofMine, ofPlain)) {
                    return false;
                }
            }
        }
        return true;
    }

    private boolean same(Object[] call, Map<String, Method> ofMine, Map<String, Method> ofPlain) throws Exception {
        Object[] arguments = new Object[call.length - 1];
        System.arraycopy(call, 1, arguments, 0, arguments.length);
        Object got = ofMine.get(call[0]).invoke(mine, arguments);
        Object due = ofPlain.get(call[0]).invoke(plain, arguments);
        trail.add(java.util.Arrays.toString(call) + " = " + got);
        if (!got.equals(due)) {
            trail.forEach(System.out::println);
            System.out.println("the model has " + due);
            return false;
        }
        return true;
    }

    private List<Object[]> nextCalls(String[] words, Map<String, Method> ofMine) {
        if (words[1].equals("TEXT")) {
            return textCalls();
        }
        Class<?>[] types = ofMine.get(words[1]).getParameterTypes();
        Object[] call = new Object[types.length + 1];
        call[0] = words[1];
        for (int i = 0; i < types.length; i++) {
            int v = argument(Integer.parseInt(words[2 + 2 * i]), Integer.parseInt(words[3 + 2 * i]));
            call[i + 1] = types[i] == long.class ? (Object) (random.nextInt(9) == 0 ? random.nextLong() : (long) v) : v;
        }
        List<Object[]> one = new ArrayList<>();
        one.add(call);
        return one;
    }

    private int argument(int least, int most) {
        int how = random.nextInt(120);
        if (how == 0) {
            return random.nextInt();
        }
        if (how == 1) {
            return least - 1;
        }
        if (how == 2) {
            return most + 1;
        }
        if (how == 3) {
            return random.nextInt(5) - 2;
        }
        if (how < 12) {
            return how % 2 == 0 ? least : most;
        }
        return (int) (least + Math.floorMod(random.nextLong(), (long) most - least + 1));
    }

    /** A TEXT, sometimes with a fault, byte by byte to THE TAPE and then to a GRANT. */
    private List<Object[]> textCalls() {
        StringBuilder text = new StringBuilder("0:");
        sum(text, 0);
        int start = 0;
        for (int i = random.nextInt(4); i > 0; i--) {
            start += random.nextInt(60);
            text.append(';').append(start).append(':');
            sum(text, 0);
        }
        if (random.nextInt(2) == 0) {
            String signs = "0123456789pyfl+-*/();: \u00ffx";
            int at = random.nextInt(text.length());
            char sign = signs.charAt(random.nextInt(signs.length()));
            switch (random.nextInt(3)) {
                case 0: text.setCharAt(at, sign); break;
                case 1: text.insert(at, sign); break;
                default: text.setLength(at); break;
            }
        }
        List<Object[]> calls = new ArrayList<>();
        for (int i = 0; i < text.length(); i += 4) {
            int n = Math.min(4, text.length() - i);
            int v = random.nextInt();
            for (int j = 0; j < n; j++) {
                v = v & ~(255 << (8 * j)) | text.charAt(i + j) << (8 * j);
            }
            calls.add(new Object[] {"feed", n, v});
        }
        calls.add(new Object[] {"steps", random.nextInt(12)});
        return calls;
    }

    private void sum(StringBuilder text, int open) {
        for (int i = random.nextInt(4); i >= 0; i--) {
            int how = random.nextInt(6);
            if (how == 0 && open < 7) {
                text.append('(');
                sum(text, open + 1);
                text.append(')');
            } else if (how < 4) {
                text.append(random.nextInt(random.nextBoolean() ? 30 : random.nextInt(8) == 0 ? 99999 : 9999));
            } else {
                text.append("pyfl".charAt(random.nextInt(4)));
            }
            if (i > 0) {
                text.append("+-*/".charAt(random.nextInt(4)));
            }
        }
    }
}
