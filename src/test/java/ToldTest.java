/** Promises 42 to 48: what is told. */
public final class ToldTest {
    private static final Checks c = new Checks("ToldTest");

    public static void main(String[] args) {
        asked();
        upperAndLower();
        counts();
        findings();
        digestOfNothing();
        digestOfAll();
        c.end();
    }

    private static Kitchen kitchen() {
        Kitchen x = new Kitchen();
        Checks.slab(x, 0, "t4 c20 f8");
        Checks.slab(x, 1, "t6 c5");
        Checks.plan(x, 0, "d i28:12 u i28:12");
        Checks.plan(x, 1, "b6:30");
        return x;
    }

    private static void asked() {
        Kitchen x = new Kitchen();
        c.due("42 asked() before", x.asked(), 0);
        x.row(0, 3);
        x.lay(0, 0, 12);
        c.due("42 lay", x.asked(), 0);
        x.at(0, 0);
        c.due("42 at", x.asked(), 12);
        x.mean(0);
        c.due("42 mean", x.asked(), 4);
        x.at(0, 3);
        x.at(6, 0);
        c.due("42 what is refused tells nothing", x.asked(), 4);
        Checks.slab(x, 0, "t4");
        Checks.plan(x, 0, "i20:5");
        c.due("42 slab, plan tell nothing", x.asked(), 4);
        x.about(0, 0);
        c.due("42 about tells THICK", x.asked(), 4);
        x.about(0, 3);
        c.due("42 about", x.asked(), 2);
        x.step(0, 0);
        c.due("42 step", x.asked(), 2005);
        x.dish(0, 0);
        x.go(5);
        x.keep(0);
        x.on(0);
        x.mark(0, 1);
        x.slice(1);
        x.order(1, 2);
        x.copy(0, 0, 0, 1, 1);
        x.tear(0);
        x.text(0, 1);
        x.put(0, 0, 5);
        x.fault(0, true);
        x.odds(1, 0);
        x.count(0);
        x.finding();
        x.findings(1);
        x.upper();
        x.lower();
        x.digest();
        c.due("42 these tell nothing", x.asked(), 2005);
        x.safe(0, 2);
        x.same(0, 0, 10, 1, 2000, 0);
        x.both(0, 0, 10, 2000, 0);
        c.due("42 nor does NONE", x.asked(), 2005);
        x.thick(0, 0, 4000, 4000);
        c.due("42 but thick tells NONE", x.asked(), Checks.NONE);
    }

    private static void upperAndLower() {
        Kitchen x = kitchen();
        c.due("43 upper() before", x.upper(), 0);
        c.due("44 lower() before", x.lower(), 1);
        x.dish(0, 0);
        x.go(24);
        x.slice(0);
        c.due("43 odds", x.odds(0, 0), 1);
        c.due("43 upper()", x.upper(), 1);
        c.due("44 lower()", x.lower(), 1);
        x.odds(0, 4);
        x.odds(5, 0);
        c.due("43 what is refused tells nothing", x.upper(), 1);
        x.odds(0, 1);
        c.due("43 none: 0", x.upper(), 0);
        c.due("44 none: by 1", x.lower(), 1);
        Kitchen y = new Kitchen();
        for (int k = 0; k < 4; k++) {
            Checks.slab(y, k, "t3");
            Checks.plan(y, k, "");
        }
        Checks.plan(y, 1, "b9:60");
        y.row(0, 3);
        c.due("43 twelve pairs", y.odds(0, 0), 12);
        c.due("43 in lowest terms", y.upper(), 1);
        c.due("44 in lowest terms", y.lower(), 3);
    }

    private static void counts() {
        Kitchen x = kitchen();
        int[] due = {2, 2, 0, 0, 0, 0, 0, 1};
        for (int what = 0; what < 8; what++) {
            c.due("45 count(" + what + ")", x.count(what), due[what]);
        }
        x.dish(0, 0);
        c.due("45 WET SKINS", x.count(3), 2);
        x.go(24);
        c.due("45 WET SKINS", x.count(3), 0);
        c.due("45 the DISH's TICK", x.count(2), 24);
        int browning = 0;
        for (int side = 0; side < 2; side++) {
            x.skin(side, 2);
            browning += x.asked() >= 20 ? 1 : 0;
        }
        c.due("45 BROWNING ones", x.count(4), browning);
        x.keep(2);
        x.keep(2);
        x.keep(0);
        c.due("45 kept DISHES", x.count(5), 2);
        x.row(5, 0);
        x.row(3, 9);
        x.row(3, 8);
        x.tear(5);
        c.due("45 ROWS", x.count(6), 1);
        x.text(0, 0);
        c.due("45 TEXTS", x.count(7), 2);
        Checks.slab(x, 0, "");
        c.due("45 SLABS", x.count(0), 2);
        for (int what : new int[] {-1, 8, Integer.MIN_VALUE, Integer.MAX_VALUE}) {
            c.refused(x, "45 count(" + what + ")", Checks.BAD, () -> x.count(what));
        }
    }

    private static void findings() {
        Kitchen x = kitchen();
        c.due("46 finding() before", x.finding(), 0);
        for (int f = 1; f <= 5; f++) {
            c.due("47 findings(" + f + ") before", x.findings(f), 0);
        }
        x.row(0, 0);
        x.dish(0, 1);
        x.tear(3);
        x.tear(3);
        c.due("46 NOTHING", x.finding(), 1);
        x.at(0, 0);
        c.due("46 BEYOND", x.finding(), 2);
        x.mark(0, 6);
        c.due("46 UNLIKE", x.finding(), 3);
        x.mean(0);
        c.due("46 NOUGHT", x.finding(), 4);
        x.row(0, -1);
        c.due("46 SIZE", x.finding(), 5);
        x.go(201);
        x.row(9, 9);
        c.due("46 BAD is none", x.finding(), 5);
        int[] due = {2, 1, 1, 1, 1};
        for (int f = 1; f <= 5; f++) {
            c.due("47 findings(" + f + ")", x.findings(f), due[f - 1]);
        }
        for (int f : new int[] {0, 6, -1, Integer.MIN_VALUE, Integer.MAX_VALUE}) {
            c.refused(x, "47 findings(" + f + ")", Checks.BAD, () -> x.findings(f));
        }
        c.due("46 they stay", x.finding(), 5);
    }

    private static long over(long h, long... values) {
        for (long v : values) {
            h = 31 * h + v;
        }
        return h;
    }

    private static void digestOfNothing() {
        Kitchen x = new Kitchen();
        long h = over(17, 0, 0, 0, 0, 0, 0, 0, 0);
        h = over(h, -1, -1, -1, -1, -1, -1, -1, -1, -1);
        h = over(h, -1, -1, -1, -1, -1, -1, -1, -1, -1, -1);
        c.due("48 digest() of nothing", x.digest(), h);
    }

    private static void digestOfAll() {
        Kitchen x = new Kitchen();
        Checks.text(x, 1, "t3c5f8");
        x.slab(2, 1);
        Checks.text(x, 1, "i30:2u");
        x.plan(1, 1);
        x.text(1, 2);
        x.put(1, 1, 200);
        x.text(3, 0);
        x.row(4, 2);
        x.lay(4, 1, -7);
        x.lay(4, 1, -8);
        x.row(5, 0);
        long h = over(17, 1, 1, 0, 0, 0, 0, 2, 2);
        h = over(h, -1, -1, 3, 5, 0, 8, -1, -1, 1, 3002, 5, 0, -1, -1, -1);
        h = over(h, -1, -1, -1, -1, 2, 0, -8, 0, -1, 2, 32, -56, -1, 0);
        c.due("48 digest() without a DISH", x.digest(), h);
        c.due("48 asked() stays", x.asked(), -7);
        x.dish(2, 1);
        x.go(2);
        x.keep(1);
        h = over(17, 1, 1, 2, 2, 0, 1, 2, 2);
        h = over(h, -1, -1, 3, 5, 0, 8, -1, -1, 1, 3002, 5, 0, -1, -1);
        h = over(h, 1000, 1000, 94, 236, 236, 100, 65, 65, 100);
        h = over(h, 1, 16, 0, 1, 1, 20, 0, 0);
        h = over(h, -1, -1, -1, -1, 2, 0, -8, 0, -1, 2, 32, -56, -1, 0);
        c.due("48 digest() with a DISH", x.digest(), h);
        c.due("48 the same again", x.digest(), h);
    }
}
