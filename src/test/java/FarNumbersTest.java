import java.lang.reflect.InvocationTargetException;
import java.lang.reflect.Method;
import java.util.ArrayList;
import java.util.Comparator;
import java.util.List;

/**
 * Every call with every mix of some far numbers, on objects with something of everything: none throws, and each answers
 * as the model does (all promises). A call that takes one or two has the document's edges among them; one that takes more
 * has a shorter list, lest the mixes be too many, and its edges are held by the other tests.
 */
public final class FarNumbersTest {
    private static final int MOST_CALLS = 512;
    private static final long[] FEW = {Integer.MIN_VALUE, -1, 0, 1, 2, Integer.MAX_VALUE};
    private static final long[] SOME = {Integer.MIN_VALUE, -2, -1, 0, 1, 4, 5, 12, 3599, 3600, Integer.MAX_VALUE};
    private static final long[] MANY = {Integer.MIN_VALUE, Integer.MIN_VALUE + 1, -2000000000, -100000, -14, -3, -2, -1, 0, 1, 2,
        3, 4, 5, 6, 7, 8, 9, 10, 11, 15, 16, 39, 40, 50, 51, 60, 61, 99, 100, 119, 120, 149, 150, 200, 201, 255, 256, 360, 361,
        720, 721, 999, 1000, 1999, 2000, 3599, 3600, 9999, 10000, 39073, 39074, 39080, 40000, 99999, 100000, 999999, 1000000,
        360099999, 360100000, Integer.MAX_VALUE - 2, Integer.MAX_VALUE};

    private final List<Method> ofMine = new ArrayList<>();
    private final List<Method> ofPlain = new ArrayList<>();
    private TongueRights mine;
    private Model plain;
    private int calls;

    private FarNumbersTest() throws Exception {
        for (Method m : TongueRights.class.getMethods()) {
            if (m.getDeclaringClass() == TongueRights.class) {
                ofMine.add(m);
            }
        }
        ofMine.sort(Comparator.comparing(Method::getName));
        for (Method m : ofMine) {
            ofPlain.add(Model.class.getMethod(m.getName(), m.getParameterTypes()));
        }
    }

    public static void main(String[] args) throws Exception {
        FarNumbersTest test = new FarNumbersTest();
        for (int i = 0; i < test.ofMine.size(); i++) {
            test.begin();
            boolean same = test.allMixes(i);
            Check.holds(test.ofMine.get(i).getName() + " with far numbers is as the model has it", same);
        }
        Check.is("calls", test.ofMine.size(), 46);
        Check.end("FarNumbersTest");
    }

    /** New objects, both behind the same calls. */
    private void begin() throws Exception {
        mine = new TongueRights();
        plain = new Model();
        List<Object[]> start = Script.callsOf(Script.RICH);
        for (Object[] call : start) {
            int i = 0;
            while (!ofMine.get(i).getName().equals(call[0])) {
                i++;
            }
            Object[] arguments = new Object[call.length - 1];
            System.arraycopy(call, 1, arguments, 0, arguments.length);
            Check.holds(call[0] + " ahead of the far numbers is as the model has it", same(i, arguments));
        }
        calls = start.size();
    }

    private boolean allMixes(int method) throws Exception {
        Class<?>[] types = ofMine.get(method).getParameterTypes();
        long[] from = types.length < 3 ? MANY : types.length < 5 ? SOME : FEW;
        int mixes = 1;
        for (int i = 0; i < types.length; i++) {
            mixes *= from.length;
        }
        boolean same = true;
        for (int mix = 0; mix < mixes && same; mix++) {
            if (calls >= MOST_CALLS) {
                begin();
            }
            Object[] arguments = new Object[types.length];
            int rest = mix;
            for (int i = 0; i < types.length; i++) {
                long v = from[rest % from.length];
                arguments[i] = types[i] == long.class ? (Object) v : (Object) (int) v;
                rest /= from.length;
            }
            same = same(method, arguments);
            calls++;
        }
        return same;
    }

    private boolean same(int method, Object[] arguments) throws Exception {
        String told = ofMine.get(method).getName() + java.util.Arrays.toString(arguments);
        Object due = ofPlain.get(method).invoke(plain, arguments);
        try {
            Object got = ofMine.get(method).invoke(mine, arguments);
            if (!got.equals(due)) {
                System.out.println(told + ": answered " + got + ", the model has " + due);
            }
            return got.equals(due);
        } catch (InvocationTargetException e) {
            System.out.println(told + ": threw " + e.getCause());
            return false;
        }
    }
}
