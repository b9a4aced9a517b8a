import java.lang.reflect.InvocationTargetException;
import java.lang.reflect.Method;
import java.util.Random;

/** Any arguments in any state, also beyond 512 calls: no call throws. */
public final class WildCallsTest {
    private static final int RUNS = 60;
    private static final int CALLS = 5000;
    private static final int[] EDGES = {
        Integer.MIN_VALUE, Integer.MAX_VALUE, -6, -5, -4, -3, -2, -1, 0, 1, 2, 3, 5, 6, 11, 12, 13,
        16, 17, 19, 20, 21, 39, 40, 41, 100, 101, 500, 501, 999, 1000, 2000, 2001, 3000, 3001};
    private static final Due D = new Due("WildCallsTest");

    public static void main(String[] args) throws IllegalAccessException {
        Method[] calls = callsInOrder();
        for (int seed = 0; seed < RUNS; seed++) {
            Random random = new Random(seed);
            CopyRegister x = new CopyRegister();
            for (int i = 0; i < CALLS; i++) {
                callOne(x, calls[random.nextInt(calls.length)], random, seed % 2 == 0);
            }
            D.due("shares of all works, run " + seed, missingShares(x), 0);
        }
        D.close();
    }

    /** In the order of their names, as the machine promises none. */
    private static Method[] callsInOrder() {
        return java.util.Arrays.stream(CopyRegister.class.getDeclaredMethods())
            .filter(m -> java.lang.reflect.Modifier.isPublic(m.getModifiers()))
            .sorted(java.util.Comparator.comparing(Method::getName))
            .toArray(Method[]::new);
    }

    private static void callOne(CopyRegister x, Method call, Random random, boolean wild)
            throws IllegalAccessException {
        Class<?>[] kinds = call.getParameterTypes();
        Object[] args = new Object[kinds.length];
        for (int i = 0; i < kinds.length; i++) {
            args[i] = kinds[i] == boolean.class ? (Object) random.nextBoolean() : (Object) number(random, wild);
        }
        try {
            call.invoke(x, args);
            D.holds(call.getName(), true);
        } catch (InvocationTargetException e) {
            D.holds(call.getName() + java.util.Arrays.toString(args) + " threw " + e.getCause(), false);
        }
    }

    private static int number(Random random, boolean wild) {
        if (wild && random.nextInt(3) == 0) return EDGES[random.nextInt(EDGES.length)];
        return random.nextInt(8) == 0 ? random.nextInt(3000) : random.nextInt(13);
    }

    /** However wild the run: 16 shares of each work, no one below 0. */
    private static int missingShares(CopyRegister x) {
        int missing = 0;
        for (int w = 0; w < x.count(3); w++) {
            int sum = x.held(w, CopyRegister.NOBODY, x.count(0));
            for (int p = 0; p < x.count(1); p++) {
                int n = x.held(w, p, x.count(0));
                sum += n;
                if (n < 0) missing++;
            }
            if (sum != 16) missing++;
        }
        return missing;
    }
}
