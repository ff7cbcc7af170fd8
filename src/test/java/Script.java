import java.lang.reflect.Method;
import java.util.ArrayList;
import java.util.HashMap;
import java.util.List;
import java.util.Map;

/**
 * Runs calls that are told as a text: "days 1 = 1, ! days 0 = BAD". Behind = stands the answer that is due; ! says that
 * the call changes nothing, which is looked at with two more objects. "3* body 0" is three calls, "wait 900" lets DAYS go
 * by, "tape 0:1;5:2" feeds a text, and "ints 2 5 6 7" has SHELF 2 hold a ROW of the ints 5, 6, 7.
 */
final class Script {
    /** AUTHOR 0, HOUSE 1, AGENT 2, SUB 3, WORK 4 that comes on DAY 0; GRANTS go on to DAY 3599. */
    static final String START = "body 6, body 1, body 2, body 3, work 4 0 0, set 4 3599";
    /** The same with GRANT 0 of WORK 4 to HOUSE 1. */
    static final String GRANTED = START + ", grant 4 1";
    /** The same with all 400 STATEMENTS, each of 0 copies at 10. */
    static final String ALL_TOLD = GRANTED + ", row 0 2 60, blank 0, 20* rowOf 0 0 0 20, blank -1";
    /**
     * Something of everything, so that what a refused call changes can be seen: AUTHORS 0 and 9, HOUSE 1, AGENT 2, SUB 3,
     * WORKS 4 and 7, BUNDLE 5 (of 4 and 6), FILM 6, BODY 8, BUNDLE 10 without WORKS. GRANTS: 0 of 4 to 1 with STATEMENTS,
     * 1 of 5 to 2, 2 of 7 to 3 from DAY 50 on, 3 of 4 to 1, which is ENDED, 4 of 4 to 1 with STEPS. It is DAY 10.
     */
    static final String RICH = "body 6, body 1, body 2, body 3, work 4 0 0, bundle 0 5, work 7 0 9, work 4 0 20, body 0, "
        + "body 6, bundle 9 0, join 5 4 3, join 5 6 2, set 4 3599, set 9 30, set 7 100, grant 4 1, grant 5 2, set 3 50, "
        + "grant 7 3, set 3 0, set 5 2, set 6 3, set 8 20, grant 4 1, grant 4 1, tape 0:5;10:7, steps 4, days 4, "
        + "state 0 50 5 100, state 1 7 0 30, days 6, state 0 10 0 90, anew 0 0 40 4, pay 0, ends 3, dies 9, offer 14 10, "
        + "offer 48 9, period 9 3, wrong 5, period 50 40, period 30 -1, ask 100 0 5, ask 60 3 4, act 3 3 5, keep 0 5, "
        + "ints 1 7 2 50 8, row 2 4 3, put 2 1 1, keep 3 8, tape 0:7, blank 9, term 700";

    private static final int MOST_CALLS = 512;
    private static final Map<String, Method> METHODS = methods();

    private final String sentence;
    private final TongueRights object = new TongueRights();
    private final List<Object[]> made = new ArrayList<>();
    private int dues;

    private Script(String sentence) {
        this.sentence = sentence;
    }

    /** Holds one sentence of the document on a new object; the calls of all parts come one behind the other. */
    static void edge(String sentence, String... parts) {
        Script script = new Script(sentence);
        for (String call : String.join(", ", parts).split(", *")) {
            script.take(call);
        }
        Check.holds(sentence + ": something is due", script.dues > 0);
        Check.holds(sentence + ": not more than 512 calls", script.made.size() <= MOST_CALLS);
    }

    /** All that can be seen of a new object behind these calls. */
    static List<Long> lookAfter(String... parts) {
        Script script = new Script("look");
        for (String call : String.join(", ", parts).split(", *")) {
            script.take(call);
        }
        return script.look(null);
    }

    /** Calls told as a text, each as its name and what it takes. */
    static List<Object[]> callsOf(String text) {
        Script script = new Script("calls");
        for (String call : text.split(", *")) {
            script.take(call);
        }
        return script.made;
    }

    private static Map<String, Method> methods() {
        Map<String, Method> found = new HashMap<>();
        for (Method m : TongueRights.class.getMethods()) {
            if (m.getDeclaringClass() == TongueRights.class) {
                found.put(m.getName(), m);
            }
        }
        return found;
    }

    private void take(String told) {
        boolean pure = told.startsWith("! ");
        String[] sides = told.substring(pure ? 2 : 0).split(" = ");
        String[] words = sides[0].split(" ");
        int times = 1;
        if (words[0].endsWith("*")) {
            times = Integer.parseInt(words[0].substring(0, words[0].length() - 1));
            words = java.util.Arrays.copyOfRange(words, 1, words.length);
        }
        long answer = 0;
        for (int i = 0; i < times; i++) {
            for (Object[] call : calls(words)) {
                if (pure) {
                    changesNothing(told, call);
                }
                made.add(call);
                answer = make(object, call);
            }
        }
        if (sides.length > 1) {
            dues++;
            Check.is(sentence + ": " + told, answer, number(sides[1]));
        }
    }

    private static List<Object[]> calls(String[] words) {
        List<Object[]> found = new ArrayList<>();
        switch (words[0]) {
            case "wait":
                for (int left = Integer.parseInt(words[1]); left > 0; left -= 360) {
                    found.add(new Object[] {"days", Math.min(360, left)});
                }
                return found;
            case "tape":
                addFeeds(found, words[1]);
                return found;
            case "ints":
                int shelf = (int) number(words[1]);
                found.add(new Object[] {"row", shelf, 2, words.length - 2});
                for (int i = 2; i < words.length; i++) {
                    found.add(new Object[] {"put", shelf, i - 2, number(words[i])});
                }
                return found;
            default:
                found.add(call(words));
                return found;
        }
    }

    private static void addFeeds(List<Object[]> found, String text) {
        for (int i = 0; i < text.length(); i += 4) {
            int n = Math.min(4, text.length() - i);
            found.add(new Object[] {"feed", n, Check.bytes(text, i, n)});
        }
    }

    private static Object[] call(String[] words) {
        Class<?>[] types = METHODS.get(words[0]).getParameterTypes();
        Object[] call = new Object[words.length];
        call[0] = words[0];
        for (int i = 1; i < words.length; i++) {
            long v = number(words[i]);
            call[i] = types[i - 1] == long.class ? (Object) v : (Object) Math.toIntExact(v);
        }
        return call;
    }

    private static long number(String word) {
        switch (word) {
            case "BAD": return TongueRights.BAD;
            case "NOT": return TongueRights.NOT;
            case "FULL": return TongueRights.FULL;
            case "VOID": return TongueRights.VOID;
            case "MIN": return Integer.MIN_VALUE;
            case "MAX": return Integer.MAX_VALUE;
            case "LEAST": return Long.MIN_VALUE;
            case "MOST": return Long.MAX_VALUE;
            default: return Long.parseLong(word);
        }
    }

    private static long make(TongueRights on, Object[] call) {
        Object[] arguments = new Object[call.length - 1];
        System.arraycopy(call, 1, arguments, 0, arguments.length);
        try {
            return ((Number) METHODS.get(call[0]).invoke(on, arguments)).longValue();
        } catch (ReflectiveOperationException e) {
            throw new IllegalStateException(java.util.Arrays.toString(call), e);
        }
    }

    private void changesNothing(String told, Object[] call) {
        List<Long> without = look(null);
        List<Long> with = look(call);
        Check.holds(sentence + ": " + told + " changes nothing", without.equals(with));
    }

    /** All that can be seen of an object with which the calls so far were made, and then one more. */
    private List<Long> look(Object[] more) {
        TongueRights twin = new TongueRights();
        for (Object[] call : made) {
            make(twin, call);
        }
        if (more != null) {
            make(twin, more);
        }
        List<Long> seen = new Look(twin).all();
        Check.holds(sentence + ": not more than 512 calls", made.size() + 1 + seen.size() <= MOST_CALLS);
        return seen;
    }
}
