import java.lang.reflect.InvocationTargetException;
import java.lang.reflect.Method;
import java.util.Arrays;

/** Every call with any numbers in any state: it answers, and what it refuses changes nothing. */
public final class WildTest {
    private static final int[] NUMBERS = {Integer.MIN_VALUE, Integer.MIN_VALUE + 1, -65536, -9, -1, 0, 1, 2, 3, 4, 5, 6, 7, 10, 15,
        16, 20, 21, 30, 40, 41, 60, 61, 80, 81, 120, 200, 300, 500, 2000, 4000, 65536, Integer.MAX_VALUE - 1, Integer.MAX_VALUE};
    private static final String[] SLABS = {"", "t3 c40 s60 f9", "t20 c0 s10", "t7"};
    private static final String[] PLANS = {"", "ud", "i30:60 u o30:60 d b30:60 r20", "d i30:60 b30:1 d r1 u"};
    private static final Checks c = new Checks("WildTest");
    private static long seed = 7;

    public static void main(String[] args) throws Exception {
        Method[] calls = Kitchen.calls().values().toArray(new Method[0]);
        for (int run = 0; run < 2000; run++) {
            Kitchen x = run % 3 == 0 ? new Kitchen() : full(run);
            for (int i = 0; i < 20; i++) {
                wild(x, calls[any(calls.length)]);
            }
        }
        c.end();
    }

    private static int any(int n) {
        seed = seed * 6364136223846793005L + 1442695040888963407L;
        return (int) ((seed >>> 33) % n);
    }

    private static Kitchen full(int run) {
        Kitchen x = new Kitchen();
        for (int k = 0; k < 4; k++) {
            Checks.slab(x, k, SLABS[(k + run) % 4]);
            Checks.plan(x, k, PLANS[any(4)]);
        }
        x.row(0, 40);
        x.dish(any(4), any(4));
        x.go(any(200));
        x.slice(1);
        x.keep(any(3));
        return x;
    }

    private static void wild(Kitchen x, Method call) throws IllegalAccessException {
        Object[] args = new Object[call.getParameterCount()];
        boolean tame = any(2) == 0;
        for (int i = 0; i < args.length; i++) {
            int v = tame ? NUMBERS[5 + any(8)] : NUMBERS[any(NUMBERS.length)];
            args[i] = call.getParameterTypes()[i] == boolean.class ? (Object) (any(2) == 0) : (Object) v;
        }
        long digest = x.digest();
        int asked = x.asked();
        int finding = x.finding();
        int found = found(x);
        String what = call.getName() + Arrays.toString(args);
        long answer;
        try {
            answer = ((Number) call.invoke(x, args)).longValue();
        } catch (InvocationTargetException e) {
            c.due(what + " threw " + e.getCause(), 1, 0);
            return;
        }
        boolean isTold = call.getParameterCount() == 0;
        if (answer < 0 && !isTold) {
            c.due(what + ": digest() behind " + answer, x.digest(), digest);
            c.due(what + ": asked() behind " + answer, x.asked(), asked);
            c.due(what + ": findings in all behind " + answer, found(x), answer == Checks.FINDING ? found + 1 : found);
            c.due(what + ": finding() behind " + answer, x.finding(), answer == Checks.FINDING ? x.finding() : finding);
        } else {
            c.due(what + ": finding() behind " + answer, x.finding(), finding);
            c.due(what + ": findings in all behind " + answer, found(x), found);
        }
    }

    private static int found(Kitchen x) {
        int all = 0;
        for (int f = 1; f <= 5; f++) {
            all += x.findings(f);
        }
        return all;
    }
}
