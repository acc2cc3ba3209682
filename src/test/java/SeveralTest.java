import java.util.Arrays;

/** Promises 35 to 41: several slabs, baths, slices, each against DISHES gone through step by step. */
public final class SeveralTest {
    private static final Checks c = new Checks("SeveralTest");

    public static void main(String[] args) {
        same();
        order();
        refusedOrders();
        both();
        safe();
        whichAndOdds();
        refusedSlices();
        rule();
        c.end();
    }

    private static int middle(Kitchen x, int thick, int what) {
        return Checks.told(x, x.depth(thick / 2, what));
    }

    /** What depth() tells of THE MIDDLE by each TICK (1 .. 200) of a PLAN. */
    private static int[] middles(String slab, int thick, String plan, int what) {
        int[] told = new int[201];
        for (int from = 0; from < 200; from += 100) {
            Kitchen x = new Kitchen();
            Checks.slab(x, 0, slab);
            Checks.plan(x, 0, plan);
            x.dish(0, 0);
            x.go(from);
            for (int n = from + 1; n <= from + 100; n++) {
                x.go(1);
                told[n] = middle(x, thick, what);
            }
        }
        return told;
    }

    /** The first TICK by which these are v or more; 201: none by 200. */
    private static int firstOf(int[] told, int v) {
        int n = 1;
        while (n <= 200 && told[n] < v) {
            n++;
        }
        return n;
    }

    private static String long200(String on) {
        return on + ":60 " + on + ":60 " + on + ":60 " + on + ":20";
    }

    /** The TICKS of IRON without a turn till THE MIDDLE has a MOST of v; 201: not by 200. */
    private static int ticksTill(String slab, int thick, int q, int v) {
        return firstOf(middles(slab, thick, long200("i" + q), 1), v);
    }

    private static void same() {
        Kitchen x = new Kitchen();
        Checks.slab(x, 0, "t4 c20");
        Checks.slab(x, 1, "t7 c5");
        int[][] asks = {{28, 500, 500}, {28, 600, 300}, {28, 0, 0}, {28, 0, 200}, {15, 700, 400}};
        for (int[] a : asks) {
            int one = ticksTill("t4 c20", 4, a[0], a[1]);
            int two = ticksTill("t7 c5", 7, a[0], a[2]);
            // No turn by 60 TICKS: so all of these must be so by then.
            c.due("35 told by 60", one <= 60 && two <= 60 ? 1 : 0, 1);
            c.tells(x, "35 same" + Arrays.toString(a), x.same(0, 1, a[0], 60, a[1], a[2]), Math.abs(one - two), two > one ? 1 : 0);
            c.tells(x, "35 the other way", x.same(1, 0, a[0], 60, a[2], a[1]), Math.abs(one - two), one > two ? 1 : 0);
        }
        c.tells(x, "35 alike", x.same(1, 1, 20, 5, 300, 300), 0, 0);
        c.none(x, "35 the first not by 200", () -> x.same(0, 1, 10, 1, 2000, 0));
        c.none(x, "35 the other one not by 200", () -> x.same(0, 1, 10, 1, 0, 2000));
        justTill200();
        int[][] bad = {{-1, 1, 20, 1, 0, 0}, {4, 1, 20, 1, 0, 0}, {0, 4, 20, 1, 0, 0}, {0, -1, 20, 1, 0, 0}, {0, 1, 9, 1, 0, 0},
            {0, 1, 31, 1, 0, 0}, {0, 1, 20, 0, 0, 0}, {0, 1, 20, 61, 0, 0}, {0, 1, 20, 1, -1, 0}, {0, 1, 20, 1, 2001, 0},
            {0, 1, 20, 1, 0, -1}, {0, 1, 20, 1, 0, 2001}, {2, 2, 20, 1, 0, 2001}};
        for (int[] b : bad) {
            Kitchen y = new Kitchen();
            Checks.slab(y, 0, "t4 c20");
            Checks.slab(y, 1, "t7 c5");
            c.refused(y, "35 same" + Arrays.toString(b), Checks.BAD, () -> y.same(b[0], b[1], b[2], b[3], b[4], b[5]));
        }
        c.finds(x, "35 no first SLAB", Checks.NOTHING, () -> x.same(2, 1, 20, 1, 0, 0));
        c.finds(x, "35 no other SLAB", Checks.NOTHING, () -> x.same(1, 2, 20, 1, 0, 0));
    }

    /** What THE MIDDLE has at TICK 200 for the first time counts, what it would have behind that does not. */
    private static void justTill200() {
        Kitchen x = new Kitchen();
        Checks.slab(x, 0, "t10 c5");
        Checks.plan(x, 0, "i10:57 u i10:57 u i10:57 u i10:29");
        x.dish(0, 0);
        x.go(199);
        int before = middle(x, 10, 1);
        x.go(1);
        int most = middle(x, 10, 1);
        c.due("35 it is warmer at TICK 200", most > before ? 1 : 0, 1);
        c.tells(x, "35 just by 200", x.same(0, 0, 10, 57, most, 0), 199, 0);
        c.tells(x, "35 just by 200", x.same(0, 0, 10, 57, 0, most), 199, 1);
        c.none(x, "35 not by 200", () -> x.same(0, 0, 10, 57, most + 1, 0));
    }

    private static final String[] MEATS = {"t6 c10 f4", "t4 c20", "t9 c5 s12", "t3 c30 f9"};
    private static final String[] COOKED = {"i24:9 u i24:9", "o30:7 i20:4", "b8:30 i30:5 u i30:5", "i28:4 u i28:4 r3 u"};

    private static Kitchen kitchen() {
        Kitchen x = new Kitchen();
        for (int k = 0; k < 4; k++) {
            Checks.slab(x, k, MEATS[k]);
            Checks.plan(x, k, COOKED[k]);
        }
        return x;
    }

    /** What one loses that is made and RESTS for so long. */
    private static int loss(int k, int wait) {
        Kitchen x = kitchen();
        x.go(x.dish(k, k));
        for (int left = wait; left > 0; left -= 60) {
            x.go(Math.min(left, 60));
        }
        return x.cut(0);
    }

    private static int ticks(int k) {
        Kitchen x = kitchen();
        return x.dish(k, k);
    }

    private static int bestLoss;
    private static int[] bestOrder;

    private static void tryOrders(int left, int[] begun) {
        if (left == 0) {
            int wait = 0;
            int loss = 0;
            for (int i = begun.length - 1; i >= 0; i--) {
                loss += loss(begun[i], wait);
                wait += ticks(begun[i]);
            }
            if (bestOrder == null || loss < bestLoss) {
                bestLoss = loss;
                bestOrder = begun;
            }
        }
        for (int k = 0; k < 4; k++) {
            if ((left & 1 << k) != 0) {
                int[] more = Arrays.copyOf(begun, begun.length + 1);
                more[begun.length] = k;
                tryOrders(left & ~(1 << k), more);
            }
        }
    }

    private static void order() {
        boolean byNumbers = true;
        for (int set = 1; set <= 15; set++) {
            bestOrder = null;
            tryOrders(set, new int[0]);
            Kitchen x = kitchen();
            x.row(4, 40);
            c.due("36 order(" + set + ", 4)", x.order(set, 4), bestLoss);
            for (int i = 0; i < bestOrder.length; i++) {
                c.tells(x, "36 order " + set + ", at(4, " + i + ")", x.at(4, i), 1, bestOrder[i]);
                byNumbers &= i == 0 || bestOrder[i] > bestOrder[i - 1];
            }
            c.finds(x, "36 a ROW anew", Checks.BEYOND, () -> x.at(4, bestOrder.length));
        }
        c.due("36 not always by numbers", byNumbers ? 1 : 0, 0);
        Kitchen alike = new Kitchen();
        for (int k = 0; k < 4; k++) {
            Checks.slab(alike, k, "");
            Checks.plan(alike, k, "");
        }
        c.due("36 nothing is lost", alike.order(13, 0), 0);
        int[] due = {0, 2, 3};
        for (int i = 0; i < 3; i++) {
            c.tells(alike, "36 of alike ones by numbers", alike.at(0, i), 1, due[i]);
        }
    }

    private static void refusedOrders() {
        Kitchen x = new Kitchen();
        x.row(0, 1);
        x.lay(0, 0, 77);
        Checks.slab(x, 0, "");
        Checks.plan(x, 0, "");
        Checks.slab(x, 1, "");
        Checks.plan(x, 2, "");
        int[][] bad = {{0, 0}, {16, 0}, {-1, 0}, {1, 6}, {1, -1}, {15, 6}, {0x10001, 0}};
        for (int[] b : bad) {
            c.refused(x, "36 order" + Arrays.toString(b), Checks.BAD, () -> x.order(b[0], b[1]));
        }
        for (int set : new int[] {2, 4, 8, 3, 5, 9, 15}) {
            c.finds(x, "36 order(" + set + ")", Checks.NOTHING, () -> x.order(set, 0));
        }
        c.tells(x, "36 the ROW stays", x.at(0, 0), 1, 77);
        c.due("36 order(1)", x.order(1, 0), 0);
        c.tells(x, "36 the ROW", x.at(0, 0), 1, 0);
    }

    private static void both() {
        Kitchen x = new Kitchen();
        Checks.slab(x, 0, "t4 c20 f3 s1");
        Checks.slab(x, 1, "t9 c5");
        int[][] asks = {{300, 400}, {500, 450}, {200, 50}, {201, 50}, {0, 2000}, {900, 700}};
        int[] one = middles("t4 c20 f3 s1", 4, long200("o20"), 1);
        int[] two = middles("t9 c5", 9, long200("o20"), 1);
        for (int[] a : asks) {
            int first = Checks.NONE;
            int all = 0;
            for (int n = 1; n <= 200; n++) {
                if (one[n] >= a[0] && two[n] <= a[1]) {
                    first = first == Checks.NONE ? n : first;
                    all++;
                }
            }
            c.due("37 it is so", first > 0 ? 1 : 0, 1);
            c.tells(x, "37 both" + Arrays.toString(a), x.both(0, 1, 20, a[0], a[1]), first, all);
        }
        c.tells(x, "37 v of 2000 is told", x.both(0, 1, 20, 0, 2000), 1, 200);
        c.none(x, "37 v of 2000 is told", () -> x.both(0, 1, 20, 2000, 0));
        c.none(x, "37 never", () -> x.both(0, 1, 20, 1999, 2000));
        c.none(x, "37 never at once", () -> x.both(1, 0, 20, 400, 300));
        c.tells(x, "37 q of 2", x.both(0, 0, 2, 200, 200), 1, 200);
        int[][] bad = {{-1, 1, 20, 0, 0}, {4, 1, 20, 0, 0}, {0, -1, 20, 0, 0}, {0, 4, 20, 0, 0}, {0, 1, 1, 0, 0}, {0, 1, 31, 0, 0},
            {0, 1, 20, -1, 0}, {0, 1, 20, 2001, 0}, {0, 1, 20, 0, -1}, {0, 1, 20, 0, 2001}, {3, 3, 1, 0, 0}};
        for (int[] b : bad) {
            Kitchen y = new Kitchen();
            Checks.slab(y, 0, "t4 c20 f3 s1");
            Checks.slab(y, 1, "t9 c5");
            c.refused(y, "37 both" + Arrays.toString(b), Checks.BAD, () -> y.both(b[0], b[1], b[2], b[3], b[4]));
        }
        c.finds(x, "37 no SLAB", Checks.NOTHING, () -> x.both(3, 0, 20, 0, 0));
        c.finds(x, "37 no other SLAB", Checks.NOTHING, () -> x.both(0, 3, 20, 0, 0));
    }

    private static void safe() {
        // The last but one is safe at TICK 200 at 60 degrees, the last one not till then.
        String[] slabs = {"t3 c40", "t8 c5", "t20 c0", "t5 c20 s9", "t12 c28", "t12 c27"};
        int[] thick = {3, 8, 20, 5, 12, 12};
        for (int s = 0; s < slabs.length; s++) {
            for (int q : new int[] {6, 7, 10, 30}) {
                Kitchen x = new Kitchen();
                Checks.slab(x, 2, slabs[s]);
                int[] warmth = middles(slabs[s], thick[s], long200("b" + q), 0);
                int sum = 0;
                int n = 0;
                while (sum < 300 && n < 200) {
                    n++;
                    sum += Math.max(0, warmth[n] - 500) / 10;
                }
                int answer = x.safe(2, q);
                c.due("38 safe of " + slabs[s] + " at " + q, answer, sum >= 300 ? n : Checks.NONE);
                c.due("38 THE MIDDLE", x.asked(), sum >= 300 ? warmth[n] : 0);
            }
        }
        Kitchen x = new Kitchen();
        Checks.slab(x, 0, "t3");
        Checks.slab(x, 1, "t12 c28");
        c.due("38 just at TICK 200", x.safe(1, 6), 200);
        Checks.slab(x, 1, "t12 c27");
        c.none(x, "38 not till TICK 200", () -> x.safe(1, 6));
        c.none(x, "38 never at 50 degrees", () -> x.safe(0, 5));
        c.none(x, "38 never at 20 degrees", () -> x.safe(0, 2));
        c.refused(x, "38 safe(0, 1)", Checks.BAD, () -> x.safe(0, 1));
        c.refused(x, "38 safe(0, 31)", Checks.BAD, () -> x.safe(0, 31));
        c.refused(x, "38 safe(4, 5)", Checks.BAD, () -> x.safe(4, 5));
        c.refused(x, "38 safe(-1, 5)", Checks.BAD, () -> x.safe(-1, 5));
        c.finds(x, "38 safe of none", Checks.NOTHING, () -> x.safe(2, 5));
    }

    private static void rowOf(Kitchen x, int r, int... v) {
        x.row(r, v.length);
        for (int i = 0; i < v.length; i++) {
            x.lay(r, i, v[i]);
        }
    }

    /** SLABS 1 and 3 of four DEPTHS, 2 of five; PLANS 0 (raw), 1 (SKINS PINK), 3 (raw, too). */
    private static Kitchen slices() {
        Kitchen x = new Kitchen();
        Checks.slab(x, 1, "t4 c40");
        Checks.slab(x, 2, "t5 c40");
        Checks.slab(x, 3, "t4 c40 f9");
        Checks.plan(x, 0, "");
        Checks.plan(x, 1, "b6:1");
        Checks.plan(x, 3, "r3 d u");
        return x;
    }

    private static void whichAndOdds() {
        Kitchen x = slices();
        rowOf(x, 0, 0, 0, 0, 0);
        c.tells(x, "39 raw", x.which(0), 10, 0);
        odds(x, 0, 0, 4, 1, 2);
        odds(x, 0, 1, 4, 0, 1);
        odds(x, 0, 2, 4, 0, 1);
        odds(x, 0, 3, 4, 1, 2);
        rowOf(x, 0, 1, 0, 0, 1);
        c.tells(x, "39 by PLAN 1", x.which(0), 11, 0);
        odds(x, 0, 1, 2, 1, 1);
        odds(x, 0, 0, 2, 0, 1);
        rowOf(x, 0, 1, 0, 0, 0);
        c.tells(x, "39 all are unlike by 1", x.which(0), 10, 1);
        odds(x, 0, 0, 6, 1, 3);
        rowOf(x, 0, 2, 2, 2, 1);
        c.tells(x, "39 PLAN 1 is unlike by 3", x.which(0), 11, 3);
        rowOf(x, 0, 0, 0, 0, 0, 1);
        c.tells(x, "39 of five DEPTHS", x.which(0), 20, 1);
        odds(x, 0, 3, 3, 1, 3);
        rowOf(x, 0, 0, 0, 0);
        c.none(x, "39 none of three DEPTHS", () -> x.which(0));
        c.finds(x, "40 none of three DEPTHS", Checks.NOUGHT, () -> x.odds(0, 0));
        long before = x.digest();
        x.dish(1, 0);
        x.go(2);
        long dish = x.digest();
        rowOf(x, 0, 0, 0, 0);
        x.which(0);
        c.due("39 the DISH stays", x.digest(), dish);
        c.due("39 there was none", before == dish ? 1 : 0, 0);
    }

    private static void odds(Kitchen x, int r, int plan, int pairs, long upper, long lower) {
        int asked = x.asked();
        String what = "40 odds(" + r + ", " + plan + ")";
        c.tells(x, what, x.odds(r, plan), pairs, asked);
        c.due(what + ", upper()", x.upper(), upper);
        c.due(what + ", lower()", x.lower(), lower);
    }

    private static void refusedSlices() {
        Kitchen x = slices();
        rowOf(x, 0, 0, 0);
        rowOf(x, 1, new int[21]);
        rowOf(x, 2, 0, 0, 3, 0);
        rowOf(x, 3, 0, -1, 0, 0);
        rowOf(x, 5, 9, 9);
        Checks.slab(x, 0, "t3");
        c.finds(x, "39 which of no ROW", Checks.NOTHING, () -> x.which(4));
        c.finds(x, "40 odds of no ROW", Checks.NOTHING, () -> x.odds(4, 0));
        for (int r : new int[] {0, 1, 5}) {
            c.finds(x, "39 which of a size", Checks.SIZE, () -> x.which(r));
            c.finds(x, "40 odds of a size", Checks.SIZE, () -> x.odds(r, 0));
        }
        for (int r : new int[] {2, 3}) {
            c.finds(x, "39 which of a number", Checks.UNLIKE, () -> x.which(r));
            c.finds(x, "40 odds of a number", Checks.UNLIKE, () -> x.odds(r, 0));
        }
        for (int r : new int[] {-1, 6}) {
            c.refused(x, "39 which", Checks.BAD, () -> x.which(r));
            c.refused(x, "40 odds", Checks.BAD, () -> x.odds(r, 0));
        }
        c.refused(x, "40 odds(4, 4)", Checks.BAD, () -> x.odds(4, 4));
        c.refused(x, "40 odds(4, -1)", Checks.BAD, () -> x.odds(4, -1));
        slicesOfTheLimits();
    }

    private static void slicesOfTheLimits() {
        Kitchen x = slices();
        Checks.slab(x, 0, "t3");
        rowOf(x, 2, 3, 0, 0, 0);
        c.finds(x, "39 the first place", Checks.UNLIKE, () -> x.which(2));
        rowOf(x, 2, 0, 0, 0, -1);
        c.finds(x, "40 the last place", Checks.UNLIKE, () -> x.odds(2, 0));
        rowOf(x, 0, new int[20]);
        rowOf(x, 1, 0, 0, 2);
        c.none(x, "39 twenty is a size", () -> x.which(0));
        c.tells(x, "39 three is a size", x.which(1), 0, 1);
        Kitchen y = new Kitchen();
        rowOf(y, 0, 0, 0, 0);
        c.none(y, "39 no SLABS", () -> y.which(0));
        c.finds(y, "40 no SLABS", Checks.NOUGHT, () -> y.odds(0, 0));
    }

    private static void rule() {
        int[][] asks = {{28, 450}, {28, 0}, {15, 400}, {30, 2000}};
        for (int[] a : asks) {
            int[] ticks = new int[21];
            for (int thick = 3; thick <= 20; thick++) {
                ticks[thick] = ruleTicks(thick, a[0], a[1]);
            }
            int best = 0;
            int least = Integer.MAX_VALUE;
            for (int x = 1; x <= 20; x++) {
                int by = 0;
                for (int thick = 3; thick <= 20; thick++) {
                    by += Math.abs(x * thick - ticks[thick]);
                }
                if (by < least) {
                    least = by;
                    best = x;
                }
            }
            Kitchen x = new Kitchen();
            Checks.slab(x, 0, "t12 c20 s5");
            c.tells(x, "41 rule" + Arrays.toString(a), x.rule(0, a[0], 40, a[1]), best, least);
        }
        Kitchen x = new Kitchen();
        Checks.slab(x, 0, "t12 c20 s5");
        c.tells(x, "41 one TICK each: 3 .. 20 off by 2 .. 19", x.rule(0, 20, 1, 0), 1, 189);
        int[][] bad = {{-1, 20, 1, 0}, {4, 20, 1, 0}, {0, 9, 1, 0}, {0, 31, 1, 0}, {0, 20, 0, 0}, {0, 20, 61, 0}, {0, 20, 1, -1},
            {0, 20, 1, 2001}, {1, 20, 1, 2001}};
        for (int[] b : bad) {
            c.refused(x, "41 rule" + Arrays.toString(b), Checks.BAD, () -> x.rule(b[0], b[1], b[2], b[3]));
        }
        c.finds(x, "41 rule of none", Checks.NOTHING, () -> x.rule(1, 20, 1, 0));
    }

    /** The TICKS of a WAY turned each 40, 200 at most. */
    private static int ruleTicks(int thick, int q, int v) {
        String on = "i" + q + ":40";
        String plan = on + "u" + on + "u" + on + "u" + on + "u" + on;
        return Math.min(200, firstOf(middles("c20 s5 t" + thick, thick, plan, 1), v));
    }
}
