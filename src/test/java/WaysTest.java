/** Promises 27 to 34: ways and plans, each against DISHES gone through step by step. */
public final class WaysTest {
    private static final Checks c = new Checks("WaysTest");

    public static void main(String[] args) {
        way();
        often();
        turns();
        most();
        off();
        rest();
        salt();
        thick();
        refusedWays();
        refusedPlans();
        c.end();
    }

    /** A WAY as a PLAN, of six IRONS at most. */
    private static String planOf(int q, int n, int t) {
        StringBuilder s = new StringBuilder();
        for (int gone = 0; gone < n; gone += t) {
            s.append(gone > 0 ? "u" : "").append('i').append(q).append(':').append(Math.min(t, n - gone));
        }
        return s.toString();
    }

    /** A DISH by a WAY, made: by PLAN 3. */
    private static Kitchen madeByWay(String slab, int q, int n, int t) {
        Kitchen x = new Kitchen();
        Checks.slab(x, 0, slab);
        Checks.plan(x, 3, planOf(q, n, t));
        x.dish(0, 3);
        x.go(n);
        return x;
    }

    private static Kitchen with(String slab) {
        Kitchen x = new Kitchen();
        Checks.slab(x, 1, slab);
        return x;
    }

    private static int crust(Kitchen x) {
        x.skin(0, 2);
        int one = x.asked();
        x.skin(1, 2);
        return Math.min(one, x.asked());
    }

    private static int middle(Kitchen x, int thick, int what) {
        return Checks.told(x, x.depth(thick / 2, what));
    }

    private static void way() {
        int[][] ways = {{23, 16, 4}, {30, 60, 10}, {10, 1, 60}, {28, 24, 8}, {30, 60, 60}, {25, 31, 10}, {30, 50, 25}};
        for (int[] w : ways) {
            Kitchen x = with("t6 f5");
            Kitchen y = madeByWay("t6 f5", w[0], w[1], w[2]);
            String what = "27 way " + w[0] + " " + w[1] + " " + w[2];
            y.keep(0);
            int pink = y.just(500, 649);
            c.tells(x, what, x.way(1, w[0], w[1], w[2]), crust(y), pink);
            c.due(what + ": no DISH by it", x.count(2), 0);
        }
        Kitchen x = with("t6 f8");
        int crust = x.way(1, 30, 60, 10);
        c.due("27 there is a CRUST", crust > 10 ? 1 : 0, 1);
        c.due("27 the longest", x.way(1, 30, 120, 60) > crust ? 1 : 0, 1);
        Checks.plan(x, 0, "i20:5");
        x.dish(1, 0);
        x.go(3);
        long before = x.digest();
        x.way(1, 30, 60, 10);
        c.due("27 the DISH stays as it is", x.digest(), before);
    }

    private static void often() {
        int[][] ways = {{23, 16, 1}, {26, 24, 2}, {26, 24, 6}, {20, 25, 1}, {30, 9, 3}, {26, 15, 4}, {15, 1, 1}, {24, 30, 3}};
        boolean more = false;
        boolean fewer = false;
        for (int[] w : ways) {
            Kitchen x = with("t8 c20");
            int once = (w[1] + 1) / 2;
            x.way(1, w[0], w[1], w[2]);
            int pink = x.asked();
            x.way(1, w[0], w[1], once);
            int fewPink = x.asked();
            Kitchen y = madeByWay("t8 c20", w[0], w[1], once);
            int onceMost = middle(y, 8, 1);
            String what = "28 often " + w[0] + " " + w[1] + " " + w[2];
            int got = x.often(1, w[0], w[1], w[2]);
            c.due(what, got, 100 + pink - fewPink);
            if (w[1] <= 6 * w[2]) {
                Kitchen z = madeByWay("t8 c20", w[0], w[1], w[2]);
                c.due(what + ", asked()", x.asked(), middle(z, 8, 1) - onceMost);
            }
            more |= got > 100;
            fewer |= x.asked() < 0;
        }
        c.due("28 more DEPTHS in one of these", more ? 1 : 0, 1);
        c.due("28 less for THE MIDDLE in one of these", fewer ? 1 : 0, 1);
    }

    private static void turns() {
        int[][] ways = {{26, 24, 9}, {23, 16, 9}, {30, 120, 9}, {10, 1, 9}, {18, 60, 9}, {10, 61, 5}};
        for (int[] w : ways) {
            Kitchen x = with(w[2] == 9 ? "t9 c20" : "t5 c0");
            int best = 0;
            int most = -1;
            for (int t = 1; t <= 60; t++) {
                x.way(1, w[0], w[1], t);
                if (x.asked() > most) {
                    most = x.asked();
                    best = t;
                }
            }
            c.tells(x, "29 turns " + w[0] + " " + w[1], x.turns(1, w[0], w[1]), best, most);
        }
        c.tells(with("t5 c0"), "29 the last t", with("t5 c0").turns(1, 10, 61), 60, 0);
    }

    /** The WAY with CRUST v by which most DEPTHS are PINK, by way() alone; how many by best[1]. */
    private static int[] mostPink(String slab, int v) {
        int[] best = {Checks.NONE, -1};
        for (int q = 14; q <= 30; q += 2) {
            Kitchen x = with(slab);
            for (int n = 4; n <= 80; n += 4) {
                for (int t : new int[] {1, 2, 4, 8, 40}) {
                    if (x.way(1, q, n, t) >= v && x.asked() > best[1]) {
                        best = new int[] {10000 * q + 100 * n + t, x.asked()};
                    }
                }
            }
        }
        return best;
    }

    private static void most() {
        String slab = "t5 c20 f4";
        for (int v : new int[] {0, 1, 10, 40, 99}) {
            Kitchen x = with(slab);
            int[] best = mostPink(slab, v);
            c.tells(x, "30 most PINK with CRUST " + v, x.most(1, 500, 649, v), best[0], best[1]);
        }
        Kitchen any = with(slab);
        int got = any.most(1, 0, 4000, 30);
        c.due("30 all are JUST SO", any.asked(), 5);
        c.due("30 with its CRUST", any.way(1, got / 10000, got / 100 % 100, got % 100) >= 30 ? 1 : 0, 1);
        Kitchen none = with("t3 c40");
        c.due("30 none JUST SO, but a CRUST", none.most(1, 4000, 4000, 0), 140401);
        c.due("30 none JUST SO", none.asked(), 0);
        c.due("30 all JUST SO at the limits", none.most(1, 0, 4000, 0), 140401);
        c.due("30 all JUST SO at the limits", none.asked(), 3);
        Kitchen y = with("t20");
        c.refused(y, "30 most, a above b", Checks.BAD, () -> y.most(1, 5, 4, 0));
        c.refused(y, "30 most, a below 0", Checks.BAD, () -> y.most(1, -1, 4, 0));
        c.refused(y, "30 most, b above 4000", Checks.BAD, () -> y.most(1, 0, 4001, 0));
        c.refused(y, "30 most, v 100", Checks.BAD, () -> y.most(1, 0, 4, 100));
        c.refused(y, "30 most, v -1", Checks.BAD, () -> y.most(1, 0, 4, -1));
        c.refused(y, "30 most of no number", Checks.BAD, () -> y.most(4, 0, 4, 0));
        c.finds(y, "30 most of none", Checks.NOTHING, () -> y.most(0, 0, 4, 0));
    }

    private static void off() {
        int[][] asks = {{26, 30, 560}, {23, 60, 700}, {30, 20, 2000}, {30, 60, 0}};
        for (int[] a : asks) {
            Kitchen x = with("t7 c10");
            int best = 0;
            int by = Integer.MAX_VALUE;
            for (int n = 1; n <= 120; n++) {
                if (n > 60 && a[1] == 60) {
                    continue;
                }
                Kitchen y = madeByWay("t7 c10", a[0], n, a[1]);
                int greatest = middle(y, 7, 0);
                for (int i = 0; i < 30; i++) {
                    y.go(1);
                    greatest = Math.max(greatest, middle(y, 7, 0));
                }
                if (Math.abs(greatest - a[2]) < by) {
                    by = Math.abs(greatest - a[2]);
                    best = n;
                }
            }
            c.tells(x, "31 off " + a[0] + " " + a[1] + " " + a[2], x.off(1, a[0], a[1], a[2]), best, by);
        }
        Kitchen y = with("t3");
        c.refused(y, "31 off, w above 2000", Checks.BAD, () -> y.off(1, 20, 1, 2001));
        c.refused(y, "31 off, w below 0", Checks.BAD, () -> y.off(1, 20, 1, -1));
        c.due("31 off, w 2000", y.off(1, 20, 1, 2000) > 0 ? 1 : 0, 1);
    }

    private static void rest() {
        String[] plans = {"", "i28:8 u i28:8", "b30:2", "o30:30", "i30:10 d", "b9:60"};
        for (String plan : plans) {
            Kitchen x = with("t4 c20");
            Checks.plan(x, 2, plan);
            int n = x.dish(1, 2);
            x.go(n);
            int best = 0;
            int least = x.cut(0);
            for (int i = 1; i <= 30; i++) {
                x.cut(i);
                if (x.asked() < least) {
                    least = x.asked();
                    best = i;
                }
            }
            long before = x.digest();
            c.tells(x, "32 rest by " + plan, x.rest(1, 2), best, least);
            c.due("32 the DISH stays", x.digest(), before);
        }
    }

    private static void salt() {
        String[] plans = {"", "i28:9 u i28:9", "d i30:10 u i30:10", "i24:30 u i24:30"};
        for (String plan : plans) {
            Kitchen x = with("t4 c20 s33 f5");
            Checks.plan(x, 2, plan);
            int best = 0;
            int most = -1;
            for (int s = 0; s <= 60; s++) {
                Kitchen y = with("t4 c20 f5 s" + s);
                Checks.plan(y, 2, plan);
                y.go(y.dish(1, 2));
                if (crust(y) > most) {
                    most = crust(y);
                    best = s;
                }
            }
            c.tells(x, "33 salt by " + plan, x.salt(1, 2), best, most);
            c.tells(x, "33 the SLAB stays", x.about(1, 2), 1, 33);
        }
    }

    private static void thick() {
        int[][] spans = {{500, 649}, {0, 4000}, {4000, 4000}, {300, 480}};
        for (int[] span : spans) {
            Kitchen x = with("t4 c20 s3 f5");
            Checks.plan(x, 2, "o25:10 i26:10 u i26:10 r5");
            int many = 0;
            int least = Checks.NONE;
            for (int thick = 3; thick <= 20; thick++) {
                Kitchen y = with("c20 s3 f5 t" + thick);
                Checks.plan(y, 2, "o25:10 i26:10 u i26:10 r5");
                y.go(y.dish(1, 2));
                int most = middle(y, thick, 1);
                if (most >= span[0] && most <= span[1]) {
                    many++;
                    least = least == Checks.NONE ? thick : least;
                }
            }
            c.tells(x, "34 thick " + span[0] + " " + span[1], x.thick(1, 2, span[0], span[1]), many, least);
        }
        Kitchen x = with("t4");
        Checks.plan(x, 2, "");
        c.tells(x, "34 none", x.thick(1, 2, 0, 49), 0, Checks.NONE);
        c.tells(x, "34 all", x.thick(1, 2, 50, 50), 18, 3);
        c.refused(x, "34 a above b", Checks.BAD, () -> x.thick(1, 2, 2, 1));
        c.refused(x, "34 a below 0", Checks.BAD, () -> x.thick(1, 2, -1, 1));
        c.refused(x, "34 b above 4000", Checks.BAD, () -> x.thick(1, 2, 0, 4001));
    }

    private static void refusedWays() {
        int[][] bad = {{-1, 20, 5, 1}, {4, 20, 5, 1}, {1, 9, 5, 1}, {1, 31, 5, 1}, {1, 20, 0, 1}, {1, 20, 121, 1}, {1, 20, 5, 0},
            {1, 20, 5, 61}, {1, 20, Integer.MIN_VALUE, 1}, {1, 20, 5, Integer.MAX_VALUE}};
        for (int[] b : bad) {
            Kitchen x = with("t3");
            String what = java.util.Arrays.toString(b);
            c.refused(x, "27 way" + what, Checks.BAD, () -> x.way(b[0], b[1], b[2], b[3]));
            c.refused(x, "28 often" + what, Checks.BAD, () -> x.often(b[0], b[1], b[2], b[3]));
            if (b[3] == 1) {
                c.refused(x, "29 turns" + what, Checks.BAD, () -> x.turns(b[0], b[1], b[2]));
            }
            if (b[2] == 5) {
                c.refused(x, "31 off" + what, Checks.BAD, () -> x.off(b[0], b[1], b[3], 500));
            }
        }
        Kitchen x = with("t3");
        c.finds(x, "27 way of none", Checks.NOTHING, () -> x.way(0, 20, 5, 1));
        c.finds(x, "28 often of none", Checks.NOTHING, () -> x.often(2, 20, 5, 1));
        c.finds(x, "29 turns of none", Checks.NOTHING, () -> x.turns(3, 20, 5));
        c.finds(x, "31 off of none", Checks.NOTHING, () -> x.off(0, 20, 5, 1));
        c.refused(x, "27 BAD is ahead of NOTHING", Checks.BAD, () -> x.way(0, 20, 5, 0));
    }

    private static void refusedPlans() {
        int[][] bad = {{-1, 2}, {4, 2}, {1, -1}, {1, 4}, {0, 4}};
        for (int[] b : bad) {
            Kitchen x = with("t3");
            Checks.plan(x, 2, "i20:5");
            String what = java.util.Arrays.toString(b);
            c.refused(x, "32 rest" + what, Checks.BAD, () -> x.rest(b[0], b[1]));
            c.refused(x, "33 salt" + what, Checks.BAD, () -> x.salt(b[0], b[1]));
            c.refused(x, "34 thick" + what, Checks.BAD, () -> x.thick(b[0], b[1], 0, 1));
        }
        int[][] missing = {{0, 2}, {1, 0}, {3, 3}};
        for (int[] m : missing) {
            Kitchen x = with("t3");
            Checks.plan(x, 2, "i20:5");
            String what = java.util.Arrays.toString(m);
            c.finds(x, "32 rest" + what, Checks.NOTHING, () -> x.rest(m[0], m[1]));
            c.finds(x, "33 salt" + what, Checks.NOTHING, () -> x.salt(m[0], m[1]));
            c.finds(x, "34 thick" + what, Checks.NOTHING, () -> x.thick(m[0], m[1], 0, 1));
        }
    }
}
