import java.lang.reflect.InvocationTargetException;
import java.lang.reflect.Method;
import java.lang.reflect.Modifier;
import java.util.Set;

/** Every call with numbers far outside and at the edges of what it takes, in every sort of state: none throws, and asking changes nothing. */
public final class AnyArgumentsTest {
    private static int wrong = 0;
    private static int calls = 0;

    private static final long[] INTS = {Integer.MIN_VALUE, -2, -1, 0, 1, 2, 3, 4, 6, 7, 8, 10, 11, 13, 14, 15, 16, 21, 22, 39, 40, 41,
        59, 60, 78, 79, 80, 300, 301, 2000, 2001, Integer.MAX_VALUE};
    private static final long[] LONGS = {Long.MIN_VALUE, -1, 0, 1, 1L << 32, Long.MAX_VALUE};

    private static final Set<String> ASKING = Set.of("tells", "isRight", "ready", "about", "result", "out", "read", "mark", "version",
        "below", "count", "digest");

    private static final int STATES = 6;
    /** Fewer than an object is used for, with what brings it into its state. */
    private static final int CALLS_AN_OBJECT = 300;

    private static void codes(BranchCells x, int block, int... opsAndNumbers) {
        for (int i = 0; i < opsAndNumbers.length; i += 2) {
            x.code(block, opsAndNumbers[i], opsAndNumbers[i + 1]);
        }
    }

    private static BranchCells inState(int state) {
        BranchCells x = new BranchCells();
        if (state == 0) {
            return x;
        }
        for (int i = 0; i < 8; i++) {
            x.block();
        }
        for (int i = 0; i < 4; i++) {
            x.merger();
            x.act(i, 1, 0);
            x.act(i, 2, 0);
            x.act(i, 4 + i, 0);
        }
        for (int cell = 0; cell < 16; cell++) {
            x.kind(cell, cell % 7);
        }
        // TASKS of BLOCKS 0 to 2 FORK three each, so the run comes to its 40 TASKS and 79 SEGMENTS
        for (int b = 0; b < 3; b++) {
            codes(x, b, 0, b, 2, b, 0, 1, 17, b + 1, 15, 1, 0, 2, 17, b + 1, 15, 2, 0, 3, 17, b + 1, 15, 3);
            codes(x, b, 14, 1, 18, 0, 19, 0, 14, 2, 18, 0, 19, 0, 14, 3, 18, 0, 20, 0);
        }
        codes(x, 3, 14, 0, 19, 0, 14, 0, 2, 5, 14, 0, 2, 3, 0, 7, 20, 0);
        if (state == 1) {
            return x;
        }
        x.start(Long.MIN_VALUE);
        if (state == 3) {
            x.drawn(3, 150);
        } else if (state == 4) {
            x.drawn(5, 300);
            x.gather();
        } else if (state == 5) {
            x.deep(2000);
        }
        return x;
    }

    private static long[] choices(Class<?> type) {
        return type == int.class ? INTS : LONGS;
    }

    private static int variants(Method m) {
        int all = 1;
        for (Class<?> type : m.getParameterTypes()) {
            all *= choices(type).length;
        }
        return all;
    }

    private static Object[] arguments(Method m, int variant) {
        Class<?>[] types = m.getParameterTypes();
        Object[] values = new Object[types.length];
        int left = variant;
        for (int i = 0; i < types.length; i++) {
            long[] from = choices(types[i]);
            long v = from[left % from.length];
            left /= from.length;
            values[i] = types[i] == int.class ? (Object) (int) v : (Object) v;
        }
        return values;
    }

    private static void tell(Method m, int state, String what) {
        wrong++;
        if (wrong < 20) {
            System.out.println(m.getName() + " in state " + state + " " + what);
        }
    }

    private static void tryAll(Method m, int state) throws IllegalAccessException {
        int all = variants(m);
        for (int from = 0; from < all; from += CALLS_AN_OBJECT) {
            BranchCells x = inState(state);
            long before = x.digest();
            for (int variant = from; variant < all && variant < from + CALLS_AN_OBJECT; variant++) {
                try {
                    m.invoke(x, arguments(m, variant));
                    calls++;
                } catch (InvocationTargetException e) {
                    tell(m, state, "threw " + e.getCause() + " for " + java.util.Arrays.toString(arguments(m, variant)));
                }
            }
            if (ASKING.contains(m.getName()) && x.digest() != before) {
                tell(m, state, "changed what there is");
            }
        }
    }

    private static void states() {
        int[] tasks = {0, 0, 1, 0, 0, 40};
        int[] open = {0, 0, 1, 0, 0, 0};
        for (int state = 0; state < STATES; state++) {
            BranchCells x = inState(state);
            boolean midway = state == 3 || state == 4;
            boolean right = midway ? x.count(2) > 4 && x.count(3) > 1 : x.count(2) == tasks[state] && x.count(3) == open[state];
            if (!right) {
                wrong++;
                System.out.println("state " + state + " is not as meant: " + x.count(2) + " tasks, " + x.count(3) + " open");
            }
        }
    }

    public static void main(String[] args) throws IllegalAccessException {
        states();
        for (Method m : BranchCells.class.getDeclaredMethods()) {
            for (int state = 0; state < STATES && Modifier.isPublic(m.getModifiers()); state++) {
                tryAll(m, state);
            }
        }
        if (calls < 100000) {
            wrong++;
            System.out.println("only " + calls + " calls were made");
        }
        System.out.println(wrong == 0 ? "all is as due" : wrong + " are not as due");
        if (wrong != 0) {
            System.exit(1);
        }
    }
}
