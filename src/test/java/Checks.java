import java.util.function.IntSupplier;

/** What the tests have in common: counting wrong answers, and setting up a kitchen by texts. */
final class Checks {
    static final int BAD = -1, FINDING = -3, STATE = -4, SPENT = -6, NONE = -9;
    static final int NOTHING = 1, BEYOND = 2, UNLIKE = 3, NOUGHT = 4, SIZE = 5;

    private final String test;
    private int wrong;
    private int looked;

    Checks(String test) {
        this.test = test;
    }

    void due(String what, long got, long want) {
        looked++;
        if (got != want) {
            wrong++;
            System.out.println(test + ": " + what + " answered " + got + ", due is " + want);
        }
    }

    void end() {
        System.out.println(test + ": " + looked + " answers looked at, " + wrong + " wrong");
        if (wrong != 0 || looked == 0) {
            System.exit(1);
        }
    }

    /** An answer, and what it told by asked(). */
    void tells(Kitchen x, String what, int got, int want, int wantAsked) {
        due(what, got, want);
        due(what + ", asked()", x.asked(), wantAsked);
    }

    /** A call that is refused without a FINDING changes nothing at all. */
    void refused(Kitchen x, String what, int want, IntSupplier call) {
        long before = all(x);
        int finding = x.finding();
        long found = foundInAll(x);
        due(what, call.getAsInt(), want);
        due(what + ", state behind it", all(x), before);
        due(what + ", finding() behind it", x.finding(), finding);
        due(what + ", findings() behind it", foundInAll(x), found);
    }

    /** A call that is refused by a FINDING changes finding() and findings(), and nothing else. */
    void finds(Kitchen x, String what, int f, IntSupplier call) {
        long before = all(x);
        int times = x.findings(f);
        long found = foundInAll(x);
        due(what, call.getAsInt(), FINDING);
        due(what + ", state behind it", all(x), before);
        due(what + ", finding() behind it", x.finding(), f);
        due(what + ", findings(" + f + ") behind it", x.findings(f), times + 1);
        due(what + ", findings() in all behind it", foundInAll(x), found + 1);
    }

    /** A call that answers NONE changes nothing either. */
    void none(Kitchen x, String what, IntSupplier call) {
        refused(x, what, NONE, call);
    }

    private static long foundInAll(Kitchen x) {
        long all = 0;
        for (int f = 1; f <= 5; f++) {
            all += x.findings(f);
        }
        return all;
    }

    private static long all(Kitchen x) {
        return ((x.digest() * 31 + x.asked()) * 31 + x.upper()) * 31 + x.lower();
    }

    static void text(Kitchen x, int t, String s) {
        x.text(t, s.length());
        for (int i = 0; i < s.length(); i++) {
            x.put(t, i, s.charAt(i));
        }
    }

    /** By TEXT 3. */
    static int slab(Kitchen x, int k, String s) {
        text(x, 3, s);
        return x.slab(k, 3);
    }

    /** By TEXT 3. */
    static int plan(Kitchen x, int k, String s) {
        text(x, 3, s);
        return x.plan(k, 3);
    }

    static int told(Kitchen x, int answer) {
        return answer == 1 ? x.asked() : Integer.MIN_VALUE;
    }
}
