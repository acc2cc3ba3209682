import java.lang.reflect.Method;
import java.util.HashMap;
import java.util.Map;

/** Long runs of all calls, at random but always the same ones: the program against the Model. */
public final class RunsTest {
    /** A call, how often it comes, and the lowest and highest of each number that it takes. */
    private static final String[] CALLS = {
        "row 2 0,5 0,40", "lay 6 0,5 0,12 0,2", "lay 1 0,5 0,39 -2147483648,2147483647", "at 3 0,5 0,12", "tear 1 0,5",
        "copy 4 0,5 0,10 0,5 0,10 0,10", "copy 2 0,5 0,40 0,5 0,40 0,40", "mean 3 0,5", "text 1 0,3 0,80",
        "put 3 0,3 0,30 0,300", "put 2 0,3 0,30 48,57", "fault 4 0,3 0,1", "slab 3 0,3 0,3", "plan 3 0,3 0,3",
        "about 3 0,3 0,3", "step 4 0,3 0,11", "dish 6 0,3 0,3", "go 10 0,12", "go 4 0,60", "go 1 0,200",
        "depth 6 0,19 0,2", "skin 8 0,1 0,3", "mark 10 0,1 1,6", "keep 3 0,2", "on 3 0,2", "just 4 0,700 500,4000",
        "slice 6 0,5", "cut 4 0,60", "rise 3", "wire 4 0,9", "way 3 0,3 10,30 1,120 1,60",
        "way 3 0,3 18,30 1,60 1,9", "often 3 0,3 10,30 1,120 1,60", "turns 1 0,3 10,30 1,120", "most 1 0,3 0,700 500,4000 0,99",
        "off 1 0,3 10,30 1,60 0,2000", "off 1 0,3 10,30 1,9 400,800", "rest 2 0,3 0,3", "salt 2 0,3 0,3",
        "thick 2 0,3 0,3 0,700 400,4000", "same 2 0,3 0,3 10,30 1,60 0,2000 0,2000", "same 2 0,3 0,3 20,30 1,60 0,700 0,700",
        "order 5 1,15 0,5", "both 2 0,3 0,3 2,30 0,2000 0,2000", "both 2 0,3 0,3 10,30 0,700 0,900", "safe 3 0,3 2,30",
        "safe 2 0,3 6,9", "which 5 0,5", "odds 5 0,5 0,3", "rule 1 0,3 10,30 1,60 0,2000", "rule 1 0,3 15,30 1,10 0,700",
        "count 2 0,7", "finding 1", "findings 1 1,5", "asked 1", "upper 1", "lower 1",
    };
    private static final int[] WILD = {Integer.MIN_VALUE, -1000, -2, -1, 0, 1, 41, 81, 100, 1000, 100000, Integer.MAX_VALUE};
    private static final int RUNS = 1500;
    /** What compare(), end(), write() of a longest TEXT call at most. */
    private static final int COMPARED = 4, ENDED = 7, WRITTEN = 80 + 4 * COMPARED;

    private long seed = 20261119;
    private final Checks checks = new Checks("RunsTest");
    private final Map<String, Method> ours = Kitchen.calls();
    private final Map<String, Method> theirs = new HashMap<>();
    private Kitchen x;
    private Model model;
    private int run;

    public static void main(String[] args) throws Exception {
        RunsTest test = new RunsTest();
        for (Method m : Model.class.getDeclaredMethods()) {
            if (!java.lang.reflect.Modifier.isPrivate(m.getModifiers())) {
                test.theirs.put(m.getName(), m);
            }
        }
        for (test.run = 1; test.run <= RUNS; test.run++) {
            test.goThrough();
        }
        test.checks.end();
    }

    private int any(int low, int high) {
        seed = seed * 6364136223846793005L + 1442695040888963407L;
        long by = seed >>> 33;
        return (int) (low + by * (high - (long) low + 1) / (1L << 31));
    }

    private void goThrough() throws Exception {
        x = new Kitchen();
        model = new Model();
        int sum = 0;
        for (String call : CALLS) {
            sum += Integer.parseInt(call.split(" ")[1]);
        }
        int meats = run % 7 == 0 ? 0 : any(1, 3);
        for (int i = 0; i < meats && x.left() >= 300; i++) {
            write(any(0, 3), slabText(), false, any(0, 3));
            write(any(0, 3), planText(), true, any(0, 3));
        }
        while (x.left() >= COMPARED + ENDED) {
            if (any(0, 19) == 0 && x.left() >= WRITTEN + COMPARED + ENDED) {
                boolean plan = any(0, 1) == 0;
                write(any(0, 3), spoilt(plan ? planText() : slabText()), plan, any(0, 3));
            }
            int pick = any(0, sum - 1);
            for (String call : CALLS) {
                pick -= Integer.parseInt(call.split(" ")[1]);
                if (pick < 0) {
                    callBoth(call.split(" "));
                    break;
                }
            }
        }
        end();
    }

    private void callBoth(String[] call) throws Exception {
        Method m = ours.get(call[0]);
        Object[] args = new Object[call.length - 2];
        for (int i = 0; i < args.length; i++) {
            String[] range = call[i + 2].split(",");
            int v = any(Integer.parseInt(range[0]), Integer.parseInt(range[1]));
            int odd = any(0, 60);
            v = odd == 0 ? WILD[any(0, WILD.length - 1)] : odd == 1 ? Integer.parseInt(range[0]) - 1
                : odd == 2 ? Integer.parseInt(range[1]) + 1 : v;
            args[i] = m.getParameterTypes()[i] == boolean.class ? (Object) (v == 1) : (Object) v;
        }
        compare(call[0], args);
    }

    private void compare(String name, Object... args) throws Exception {
        String what = "run " + run + ": " + name + java.util.Arrays.toString(args);
        long got = ((Number) ours.get(name).invoke(x, args)).longValue();
        long want = ((Number) theirs.get(name).invoke(model, args)).longValue();
        checks.due(what, got, want);
        checks.due(what + ", asked()", x.asked(), model.asked());
        checks.due(what + ", finding()", x.finding(), model.finding());
        checks.due(what + ", digest()", x.digest(), model.digest());
    }

    /** What changes seldom is looked at once a run. */
    private void end() {
        checks.due("run " + run + ", upper()", x.upper(), model.upper());
        checks.due("run " + run + ", lower()", x.lower(), model.lower());
        for (int f = 1; f <= 5; f++) {
            checks.due("run " + run + ", findings(" + f + ")", x.findings(f), model.findings(f));
        }
    }

    /** Writes a TEXT sign by sign, looks for its FAULT, and makes a SLAB or a PLAN by it. */
    private void write(int t, String s, boolean plan, int k) throws Exception {
        compare("text", t, Math.min(s.length(), 80));
        for (int i = 0; i < s.length() && i < 80; i++) {
            if (s.charAt(i) == ' ') {
                continue;
            }
            x.put(t, i, s.charAt(i));
            model.put(t, i, s.charAt(i));
        }
        compare("fault", t, plan);
        compare("fault", t, !plan);
        compare(plan ? "plan" : "slab", k, t);
    }

    private String blanks() {
        return " ".repeat(Math.max(0, any(-4, 2)));
    }

    private String slabText() {
        StringBuilder s = new StringBuilder();
        int items = any(0, 5);
        for (int i = 0; i < items; i++) {
            int letter = any(0, 3);
            int high = new int[] {20, 40, 60, 9}[letter];
            int n = any(letter == 0 ? 3 : 0, high);
            String zero = n < 10 && any(0, 4) == 0 ? "0" : "";
            s.append(blanks()).append("tcsf".charAt(letter)).append(zero).append(n);
        }
        return s.append(blanks()).toString();
    }

    private String planText() {
        StringBuilder s = new StringBuilder();
        int steps = any(0, 12);
        int left = any(0, 9) == 0 ? 230 : 200;
        for (int i = 0; i < steps && s.length() < 72; i++) {
            char letter = "iiiiobbruud".charAt(any(0, 10));
            int n = any(1, any(0, 3) == 0 ? 60 : 15);
            s.append(blanks()).append(letter);
            if (letter == 'u' || letter == 'd') {
                continue;
            }
            n = left > 0 ? Math.min(n, left) : 1;
            left -= n;
            if (letter != 'r') {
                s.append(any(letter == 'i' ? 12 : 2, 30)).append(':');
            }
            s.append(n);
        }
        return s.append(blanks()).toString();
    }

    /** A text with a sign that does not belong there, one too many, one too few, or as it is. */
    private String spoilt(String s) {
        String signs = "tcsfiobrud:0123456789 x" + (char) 200 + (char) 0;
        String sign = signs.substring(any(0, signs.length() - 1)).substring(0, 1);
        int at = any(0, s.length());
        int behind = Math.min(at + 1, s.length());
        switch (any(0, 3)) {
            case 0: return s.substring(0, at) + sign + s.substring(behind);
            case 1: return s.substring(0, at) + sign + s.substring(at);
            case 2: return s.substring(0, at) + s.substring(behind);
            default: return s;
        }
    }
}
