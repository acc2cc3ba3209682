import java.lang.reflect.Method;
import java.util.ArrayList;
import java.util.Arrays;
import java.util.List;
import java.util.Map;
import java.util.regex.Matcher;
import java.util.regex.Pattern;

/**
 * Runs of calls on new objects, as texts. Behind each call a second object goes through the same calls and then
 * through a fixed way that shows all it holds, so that a call that may change nothing is seen to change nothing.
 *
 * <pre>
 * ROW 0: 3 -1 4              a ROW with these places
 * TEXT 1 " t6 c5"            a TEXT of these signs
 * SLAB 2 "t6 c5"             a SLAB by a TEXT (TEXT 3 holds it); PLAN likewise
 * FAULT slab "t2" = 2        fault() of such a TEXT (TEXT 3), and whether slab() refuses it; plan likewise
 * at 0 1 = 1 told -1         a call, its answer, what asked() is then
 * at 0 3 = BEYOND            a refused call: BAD, FULL, STATE, SPENT or the FINDING's name; NONE likewise
 * depths 0 = 50 50 50        depth() of each DEPTH, and that there are no more; skins 1 = 20 20; places 0 = 3 -1 4
 * </pre>
 */
final class Edges {
    private static final List<String> FINDINGS = Arrays.asList("", "NOTHING", "BEYOND", "UNLIKE", "NOUGHT", "SIZE");
    private static final Map<String, Integer> REFUSED =
        Map.of("BAD", -1, "FULL", -2, "STATE", -4, "SPENT", -6, "NONE", -9);
    /** Calls that change nothing, as the document has it, but for what is told. */
    private static final List<String> ASKING = words("at mean fault about step depth skin mark just cut rise wire way often turns "
        + "most off rest salt thick same both safe which odds rule asked upper lower count finding findings digest");
    /** Calls that asked() tells of. */
    private static final List<String> TELLING = words("lay at mean about step depth skin just cut rise wire way often turns most "
        + "off rest salt thick same both safe which rule");
    private static final Pattern CALL = Pattern.compile("([a-z]+)((?: [-a-z0-9]+)*) = (\\S+)(?: told (\\S+))?");
    private static final Pattern WRITTEN = Pattern.compile("(TEXT|SLAB|PLAN) (\\d) \"(.*)\"");
    private static final Pattern FAULT = Pattern.compile("FAULT (slab|plan) \"(.*)\" = (\\S+)");
    private static final Map<String, Method> METHODS = Kitchen.calls();

    private static List<String> words(String all) {
        return Arrays.asList(all.split(" "));
    }

    private record Call(String name, Object[] args) { }

    /** All that an object tells and holds. */
    private record Held(long asked, long upper, long lower, long finding, long[] findings, List<Long> rest) {
        Held(Kitchen y) {
            this(y.asked(), y.upper(), y.lower(), y.finding(), new long[6], new ArrayList<>());
            for (int f = 1; f <= 5; f++) {
                findings[f] = y.findings(f);
            }
        }
    }

    private final String test;
    private int runs;
    private int looked;
    private int wrong;

    private String title;
    private String line;
    private Kitchen x;
    private List<Call> calls;
    private Held held;

    Edges(String test) {
        this.test = test;
    }

    void end() {
        System.out.println(test + ": " + runs + " runs, " + looked + " answers looked at, " + wrong + " wrong");
        if (wrong != 0 || looked == 0) {
            System.exit(1);
        }
    }

    /** A run on a new object. */
    void run(String what, String lines) {
        runs++;
        title = what;
        x = new Kitchen();
        calls = new ArrayList<>();
        held = null;
        for (String l : lines.split("\n")) {
            line = l.strip();
            if (!line.isEmpty() && !line.startsWith("#")) {
                goOn();
            }
        }
    }

    private void wrongHere(String why) {
        wrong++;
        System.out.println(test + ": " + title + ": " + line + ": " + why);
    }

    void due(String what, long got, long want) {
        looked++;
        if (got != want) {
            wrongHere(what + got + ", due is " + want);
        }
    }

    private void goOn() {
        Matcher written = WRITTEN.matcher(line);
        Matcher fault = FAULT.matcher(line);
        Matcher call = CALL.matcher(line);
        if (line.startsWith("ROW ")) {
            writeRow(line.substring(4, 5), line.substring(6).strip());
        } else if (written.matches()) {
            write(written.group(1), Integer.parseInt(written.group(2)), written.group(3));
        } else if (fault.matches()) {
            lookAtFault(fault.group(1).equals("plan"), fault.group(2), fault.group(3));
        } else if (line.matches("(depths|skins|places) \\d = .*")) {
            lookAtAll(line.split(" = ")[0].split(" "), line.split(" = ")[1].split(" "));
        } else if (call.matches()) {
            String args = call.group(2).strip();
            look(call.group(1), args.isEmpty() ? new String[0] : args.split(" "), call.group(3), call.group(4));
        } else {
            wrongHere("no line of a run");
        }
    }

    private void writeRow(String r, String places) {
        String[] v = places.isEmpty() ? new String[0] : places.split(" +");
        setUp("row", Integer.parseInt(r), v.length);
        for (int i = 0; i < v.length; i++) {
            if (!v[i].equals("0")) {
                setUp("lay", Integer.parseInt(r), i, Integer.parseInt(v[i]));
            }
        }
    }

    private void writeText(int t, String signs) {
        setUp("text", t, signs.length());
        for (int i = 0; i < signs.length(); i++) {
            if (signs.charAt(i) != ' ') {
                setUp("put", t, i, (int) signs.charAt(i));
            }
        }
    }

    private void write(String kind, int k, String signs) {
        writeText(kind.equals("TEXT") ? k : 3, signs);
        if (!kind.equals("TEXT")) {
            setUp(kind.equals("SLAB") ? "slab" : "plan", k, 3);
        }
    }

    private void lookAtFault(boolean plan, String signs, String due) {
        writeText(3, signs);
        look("fault", new String[] {"3", plan ? "plan" : "slab"}, due, null);
        long made = call(x, new Call(plan ? "plan" : "slab", new Object[] {0, 3}));
        calls.add(new Call(plan ? "plan" : "slab", new Object[] {0, 3}));
        due("a FAULT, but made: ", made >= 0 ? 0 : made, due.equals("NONE") ? 0 : -4);
        held = null;
    }

    private void lookAtAll(String[] what, String[] due) {
        String call = what[0].substring(0, what[0].length() - 1).replace("place", "at");
        for (int i = 0; i < due.length; i++) {
            String[] args = {call.equals("at") ? what[1] : "" + i, call.equals("at") ? "" + i : what[1]};
            look(call, args, "1", due[i]);
        }
        if (!call.equals("skin") && !(call.equals("depth") && due.length == 20)) {
            String end = "" + due.length;
            look(call, call.equals("at") ? new String[] {what[1], end} : new String[] {end, what[1]}, "BEYOND", null);
        }
    }

    private void setUp(String name, Object... args) {
        Call c = new Call(name, args);
        long answer = call(x, c);
        calls.add(c);
        held = null;
        if (answer < 0) {
            wrongHere(name + " answered " + answer + " ahead of the run");
        }
    }

    private static long number(String s) {
        return REFUSED.containsKey(s) ? REFUSED.get(s) : FINDINGS.contains(s) ? -3 : Long.parseLong(s);
    }

    private void look(String name, String[] args, String due, String told) {
        Method m = METHODS.get(name);
        if (m == null || m.getParameterCount() != args.length) {
            wrongHere("no such call");
            return;
        }
        Object[] values = new Object[args.length];
        for (int i = 0; i < args.length; i++) {
            boolean kind = m.getParameterTypes()[i] == boolean.class;
            values[i] = kind ? (Object) args[i].equals("plan") : (Object) Integer.parseInt(args[i]);
        }
        Call c = new Call(name, values);
        Held before = held == null ? heldBehind(calls) : held;
        long answer = call(x, c);
        calls.add(c);
        held = heldBehind(calls);
        due(name + " answered ", answer, number(due));
        if (told != null) {
            due("asked() is ", x.asked(), number(told));
            calls.add(new Call("asked", new Object[0]));
        }
        compare(before, name, due);
    }

    /** What this call may not change has not changed. */
    private void compare(Held before, String name, String due) {
        int f = Math.max(FINDINGS.indexOf(due), 0);
        boolean taken = f == 0 && !REFUSED.containsKey(due);
        due("finding() is ", held.finding, f > 0 ? f : before.finding);
        for (int i = 1; i <= 5; i++) {
            due("findings(" + i + ") is ", held.findings[i], before.findings[i] + (i == f ? 1 : 0));
        }
        if (!taken || !TELLING.contains(name)) {
            due("asked() is ", held.asked, before.asked);
        }
        if (!taken || !name.equals("odds")) {
            due("upper() is ", held.upper, before.upper);
            due("lower() is ", held.lower, before.lower);
        }
        if (!taken || ASKING.contains(name)) {
            looked++;
            if (!held.rest.equals(before.rest)) {
                wrongHere("it changes what the object holds");
            }
        }
    }

    private static long call(Kitchen x, Call c) {
        try {
            return ((Number) METHODS.get(c.name).invoke(x, c.args)).longValue();
        } catch (ReflectiveOperationException e) {
            throw new IllegalStateException(c.name + Arrays.toString(c.args), e);
        }
    }

    /** What an object holds behind these calls: shown by a new one that goes through them. */
    private Held heldBehind(List<Call> all) {
        Kitchen y = new Kitchen();
        for (Call c : all) {
            call(y, c);
        }
        Held h = new Held(y);
        h.rest.add(y.digest());
        if (y.asked() != h.asked) {
            wrongHere("digest() changes asked()");
        }
        show(y, h.rest);
        return h;
    }

    /** The DISH goes on, and so does each kept one: this shows what digest() does not. */
    private static void show(Kitchen y, List<Long> rest) {
        for (int side = 0; side < 2; side++) {
            for (int kind = 1; kind <= 6; kind++) {
                rest.add((long) y.mark(side, kind));
            }
        }
        for (int k = -1; k < 3; k++) {
            rest.add(k < 0 ? 0L : y.on(k));
            rest.add((long) y.mark(0, 4));
            rest.add((long) y.mark(1, 4));
            for (int ticks : new int[] {0, 1, 1, 5, 60}) {
                rest.add((long) y.go(ticks));
                rest.add(y.digest());
            }
        }
    }
}
