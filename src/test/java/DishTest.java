/** Promises 15 to 26: dishes. Numbers of the first TICKS are worked out by hand. */
public final class DishTest {
    private static final Checks c = new Checks("DishTest");
    private static final int LOWEST = Integer.MIN_VALUE, GREATEST = Integer.MAX_VALUE;

    public static void main(String[] args) {
        dish();
        goAndDepth();
        juiceAndBrown();
        outsides();
        wetAtFirst();
        skinAndTurns();
        kindsAndMarks();
        countsOfKinds();
        keepAndOn();
        justAndSlice();
        cut();
        rise();
        wire();
        noDish();
        c.end();
    }

    private static Kitchen begun(String slab, String plan) {
        Kitchen x = new Kitchen();
        Checks.slab(x, 0, slab);
        Checks.plan(x, 0, plan);
        x.dish(0, 0);
        return x;
    }

    private static void depths(Kitchen x, String what, int of, int... due) {
        for (int k = 0; k < due.length; k++) {
            c.tells(x, what + " depth(" + k + ", " + of + ")", x.depth(k, of), 1, due[k]);
        }
    }

    private static void skins(Kitchen x, String what, int of, int due0, int due1) {
        c.tells(x, what + " skin(0, " + of + ")", x.skin(0, of), 1, due0);
        c.tells(x, what + " skin(1, " + of + ")", x.skin(1, of), 1, due1);
    }

    private static void dish() {
        Kitchen x = new Kitchen();
        Checks.slab(x, 1, "t3");
        Checks.plan(x, 2, "u i20:5 o20:60 d b20:7 r60 u");
        c.due("15 dish: all TICKS", x.dish(1, 2), 132);
        c.due("15 at TICK 0", x.count(2), 0);
        c.due("15 go", x.go(1), 1);
        Checks.slab(x, 1, "t9");
        Checks.plan(x, 2, "");
        depths(x, "15 by the SLAB as it was", 2, 100, 100, 100);
        c.finds(x, "15 no more DEPTHS", Checks.BEYOND, () -> x.depth(3, 0));
        c.tells(x, "15 by the PLAN as it was: turned", x.skin(1, 3), 1, 1);
        c.due("15 goes on", x.go(1), 2);
        c.tells(x, "15 by the PLAN as it was: on IRON", x.skin(1, 0), 1, 1);
        c.due("15 dish anew", x.dish(1, 2), 0);
        c.due("15 at TICK 0", x.count(2), 0);
        c.tells(x, "15 nine DEPTHS", x.depth(8, 0), 1, 50);
        c.finds(x, "15 no SLAB", Checks.NOTHING, () -> x.dish(0, 2));
        c.finds(x, "15 no PLAN", Checks.NOTHING, () -> x.dish(1, 1));
        c.refused(x, "15 dish(4, 0)", Checks.BAD, () -> x.dish(4, 0));
        c.refused(x, "15 dish(0, 4)", Checks.BAD, () -> x.dish(0, 4));
        c.refused(x, "15 dish(-1, 0)", Checks.BAD, () -> x.dish(-1, 0));
    }

    private static void goAndDepth() {
        Kitchen x = begun("t3 c5 f8", "i30:60");
        c.due("16 go(0)", x.go(0), 0);
        depths(x, "17 at first", 0, 50, 50, 50);
        c.due("16 go(1)", x.go(1), 1);
        depths(x, "17 after 1", 0, 787, 50, 59);
        depths(x, "17 after 1", 2, 98, 100, 100);
        c.due("16 go(1)", x.go(1), 2);
        depths(x, "17 after 2: boiled down to 1000", 0, 1000, 236, 65);
        depths(x, "17 after 2", 1, 1000, 236, 65);
        depths(x, "17 after 2", 2, 94, 100, 100);
        skins(x, "18 WET after 2", 1, 16, 20);
        c.due("16 go(198)", x.go(198), 200);
        c.due("16 go(100)", x.go(100), 300);
        c.due("16 go(0) at the end", x.go(0), 300);
        c.refused(x, "16 go(1) behind TICK 300", Checks.SPENT, () -> x.go(1));
        Kitchen y = begun("", "");
        y.go(101);
        c.refused(y, "16 go(200) behind TICK 300", Checks.SPENT, () -> y.go(200));
        c.due("16 go(199)", y.go(199), 300);
        c.refused(x, "16 go(201)", Checks.BAD, () -> x.go(201));
        c.refused(x, "16 go(-1)", Checks.BAD, () -> x.go(-1));
        c.refused(x, "16 go(greatest)", Checks.BAD, () -> x.go(GREATEST));
        c.refused(x, "17 depth(20, 0)", Checks.BAD, () -> x.depth(20, 0));
        c.refused(x, "17 depth(-1, 0)", Checks.BAD, () -> x.depth(-1, 0));
        c.refused(x, "17 depth(0, 3)", Checks.BAD, () -> x.depth(0, 3));
        c.refused(x, "17 depth(0, -1)", Checks.BAD, () -> x.depth(0, -1));
        c.finds(x, "17 depth(3, 0)", Checks.BEYOND, () -> x.depth(3, 0));
        c.finds(x, "17 depth(19, 2)", Checks.BEYOND, () -> x.depth(19, 2));
    }

    private static void juiceAndBrown() {
        Kitchen x = begun("t3 c5 f8", "d i30:60");
        x.go(2);
        depths(x, "17 dry after 2", 0, 1156, 236, 65);
        x.go(1);
        depths(x, "17 dry after 3", 0, 1387, 423, 115);
        skins(x, "18 no BROWN yet", 2, 0, 0);
        x.go(1);
        depths(x, "17 dry after 4", 0, 1549);
        skins(x, "18 BROWN by 1 and FAT by 4", 2, 3, 0);
        depths(x, "17 JUICE: less 2, 6, 8, 9", 2, 75);
        c.tells(x, "17 all JUICE", x.just(0, 4000), 3, 275);
        x.go(20);
        depths(x, "17 no JUICE below 0", 2, 0);
        Kitchen lean = begun("t3 c5 f3", "d i30:60");
        lean.go(4);
        skins(lean, "18 FAT 3 by 4 is none", 2, 1, 0);
    }

    private static void outsides() {
        Kitchen x = begun("t3 c0", "o10:2");
        x.go(1);
        depths(x, "17 OVEN: a 12th of 1000 on either SKIN", 0, 83, 0, 83);
        x.go(1);
        depths(x, "17 OVEN after 2", 0, 83 - 20 + 76, 41, 139);
        x = begun("t4 c40", "b2:1 r1");
        x.go(1);
        depths(x, "17 BATH: half of 200 less 400", 0, 300, 400, 400, 300);
        depths(x, "17 MOST stays", 1, 400, 400, 400, 400);
        skins(x, "18 BATH: WET 30", 1, 30, 30);
        x.go(1);
        depths(x, "17 REST: a 20th of 200 less 300", 0, 300 + 25 - 5, 375, 375, 320);
        x = begun("t3 c40", "r1");
        x.go(1);
        depths(x, "17 REST: cut toward 0 from above, too", 0, 390, 400, 390);
        x.go(1);
        depths(x, "17 REST again: -9, and 2", 0, 390 + 2 - 9, 400 - 5, 383);
        x = begun("t3 c5", "i10:1");
        x.go(1);
        depths(x, "17 IRON: a 4th of 1000 less 50; up a 16th of 200 less 50", 0, 287, 50, 59);
        x = begun("t3 c0", "d i30:60 b30:1");
        x.go(60);
        x.depth(0, 0);
        c.due("17 dry and hot", x.asked() > 2000 ? 1 : 0, 1);
        x.go(1);
        x.depth(0, 0);
        c.due("18 a dry SKIN is wet by the BATH behind its warmth", x.asked() > 2000 ? 1 : 0, 1);
        skins(x, "18 WET 30", 1, 30, 30);
        x.go(1);
        depths(x, "18 boiled down at REST", 0, 1000);
    }

    private static void wetAtFirst() {
        int[] salt = {0, 1, 10, 11, 30, 49, 50, 60};
        int[] wet = {20, 22, 40, 39, 20, 1, 0, 0};
        for (int i = 0; i < salt.length; i++) {
            Kitchen x = begun("s" + salt[i], "");
            skins(x, "18 WET of SALT " + salt[i], 1, wet[i], wet[i]);
            int kind = wet[i] == 0 ? 0 : salt[i] > 0 ? 5 : 1;
            skins(x, "18 KIND of SALT " + salt[i], 0, kind, kind);
        }
    }

    private static void skinAndTurns() {
        Kitchen x = begun("t3", "u d i20:2 u i20:1 u u d r2 u");
        skins(x, "18 begun: not turned yet", 3, 1, 0);
        skins(x, "18 begun: not dried yet", 1, 20, 20);
        x.go(0);
        skins(x, "18 go(0) does nothing", 1, 20, 20);
        x.go(1);
        skins(x, "18 turned", 3, 0, 1);
        skins(x, "18 dried", 1, 0, 0);
        depths(x, "17 SKIN 1 is down", 0, 59);
        x.go(1);
        skins(x, "18 at the end of a STEP not turned yet", 3, 0, 1);
        x.go(1);
        skins(x, "18 turned back", 3, 1, 0);
        x.go(2);
        skins(x, "18 turned twice, rested", 3, 1, 0);
        x.go(1);
        skins(x, "18 turned behind all STEPS", 3, 0, 1);
        c.refused(x, "18 skin(2, 0)", Checks.BAD, () -> x.skin(2, 0));
        c.refused(x, "18 skin(-1, 0)", Checks.BAD, () -> x.skin(-1, 0));
        c.refused(x, "18 skin(0, 4)", Checks.BAD, () -> x.skin(0, 4));
        c.refused(x, "18 skin(0, -1)", Checks.BAD, () -> x.skin(0, -1));
    }

    private static void marks(Kitchen x, String what, int side, int... due) {
        for (int kind = 1; kind <= 6; kind++) {
            c.due(what + " mark(" + side + ", " + kind + ")", x.mark(side, kind), due[kind - 1]);
        }
    }

    private static void kindsAndMarks() {
        int no = Checks.FINDING;
        Kitchen x = begun("t3 s5", "i20:1 d i20:1 o20:1 r3");
        skins(x, "18 SALTED", 0, 5, 5);
        marks(x, "19 SALTED", 1, 30, no, no, no, 5, no);
        x.go(1);
        skins(x, "18 SALTED is ahead of COOLING", 0, 5, 5);
        x.go(1);
        skins(x, "18 SKIN down, COOLING up", 0, 0, 2);
        marks(x, "19 SKIN", 0, no, no, no, no, no, no);
        x.depth(2, 0);
        marks(x, "19 COOLING", 1, no, x.asked(), no, no, no, no);
        x.go(1);
        skins(x, "18 in the OVEN", 0, 0, 0);
        x.go(2);
        skins(x, "18 RESTED", 0, 4, 4);
        x.depth(0, 0);
        marks(x, "19 RESTED", 0, no, x.asked(), no, 2, no, no);
        x.go(7);
        c.due("19 REST goes on behind all STEPS", x.mark(1, 4), 9);
        Kitchen wet = begun("t3", "i20:1 b20:1");
        wet.go(2);
        skins(wet, "18 WET", 0, 1, 1);
        marks(wet, "19 WET", 0, 30, no, no, no, no, no);
        Kitchen rests = begun("t3", "d r2 o10:1 r1");
        rests.go(4);
        c.due("19 REST on end, from anew", rests.mark(0, 4), 1);
        rests.dish(0, 0);
        rests.go(1);
        c.due("19 REST of the new DISH alone", rests.mark(0, 4), 1);
        browned();
        c.refused(x, "19 mark(0, 0)", Checks.BAD, () -> x.mark(0, 0));
        c.refused(x, "19 mark(0, 7)", Checks.BAD, () -> x.mark(0, 7));
        c.refused(x, "19 mark(2, 1)", Checks.BAD, () -> x.mark(2, 1));
        c.refused(x, "19 mark(-1, 1)", Checks.BAD, () -> x.mark(-1, 1));
        c.refused(x, "19 mark(0, lowest)", Checks.BAD, () -> x.mark(0, LOWEST));
    }

    private static void browned() {
        int no = Checks.FINDING;
        Kitchen x = begun("t20 s1 f9", "d i30:60 u b20:1");
        int was = 0;
        boolean wasBrowning = false;
        boolean wasBurnt = false;
        for (int i = 0; i < 60; i++) {
            x.go(1);
            x.skin(0, 2);
            int brown = x.asked();
            x.skin(0, 0);
            c.due("18 KIND of BROWN " + brown, x.asked(), brown > 100 ? 6 : brown >= 20 ? 3 : 0);
            if (brown >= 20 && was < 20) {
                marks(x, "19 BROWNING", 0, no, no, brown, no, no, no);
                wasBrowning = true;
            }
            if (brown > 100 && was <= 100) {
                marks(x, "19 BURNT", 0, no, no, brown, no, no, brown - 100);
                wasBurnt = true;
            }
            was = brown;
        }
        c.due("19 it was BROWNING, then BURNT", wasBrowning && wasBurnt ? 1 : 0, 1);
        x.go(1);
        c.tells(x, "18 WET again", x.skin(0, 1), 1, 30);
        c.tells(x, "18 but still BURNT", x.skin(0, 0), 1, 6);
        c.tells(x, "18 the other one SALTED", x.skin(1, 0), 1, 5);
    }

    private static void countsOfKinds() {
        Kitchen x = begun("t20 f9", "i30:60 u b20:1");
        c.due("45 WET SKINS at first", x.count(3), 2);
        c.due("45 BROWNING ones at first", x.count(4), 0);
        x.go(60);
        c.due("45 WET SKINS", x.count(3), 1);
        c.due("45 BROWNING ones, BURNT, too", x.count(4), 1);
        x.go(1);
        c.due("45 a WET one that is BROWNING does not count", x.count(3), 1);
        Kitchen salted = begun("s3", "d r1");
        c.due("45 SALTED, too", salted.count(3), 2);
        salted.go(1);
        c.due("45 none", salted.count(3), 0);
    }

    private static void keepAndOn() {
        Kitchen x = begun("t3 c5 f8", "i30:2 u i30:2 d r5");
        c.due("20 keep(0)", x.keep(0), 0);
        c.due("45 kept DISHES", x.count(5), 1);
        x.go(3);
        c.due("20 keep(2)", x.keep(2), 3);
        x.go(1);
        long four = x.digest();
        x.go(2);
        x.keep(1);
        x.go(3);
        long nine = x.digest();
        Checks.slab(x, 0, "t9 c9");
        Checks.plan(x, 0, "");
        x.dish(0, 0);
        x.go(20);
        Checks.slab(x, 0, "t3 c5 f8");
        Checks.plan(x, 0, "i30:2 u i30:2 d r5");
        c.due("21 on(1)", x.on(1), 6);
        c.due("21 REST till now", x.mark(0, 4), 2);
        c.due("21 go on", x.go(3), 9);
        c.due("45 kept DISHES", x.count(5), 3);
        c.due("21 on(2)", x.on(2), 3);
        c.due("21 go on by its PLAN", x.go(1), 4);
        x.on(2);
        x.go(6);
        c.due("21 as it went before", x.count(2), 9);
        Kitchen y = begun("t3 c5 f8", "i30:2 u i30:2 d r5");
        y.go(3);
        y.keep(0);
        y.go(1);
        long then = y.digest();
        y.go(5);
        y.on(0);
        y.go(1);
        c.due("21 the same again", y.digest(), then);
        c.due("21 it was another one", four == nine ? 1 : 0, 0);
        c.due("20 keep in the same place", y.keep(0), 4);
        c.due("21 the later one", y.on(0), 4);
        c.finds(y, "21 on(1)", Checks.NOTHING, () -> y.on(1));
        c.refused(y, "21 on(3)", Checks.BAD, () -> y.on(3));
        c.refused(y, "21 on(-1)", Checks.BAD, () -> y.on(-1));
        c.refused(y, "20 keep(3)", Checks.BAD, () -> y.keep(3));
        c.refused(y, "20 keep(-1)", Checks.BAD, () -> y.keep(-1));
    }

    private static void justAndSlice() {
        Kitchen x = begun("t5 c40", "b6:60");
        c.tells(x, "22 just(400, 400)", x.just(400, 400), 5, 500);
        c.tells(x, "22 just(401, 4000)", x.just(401, 4000), 0, 500);
        c.tells(x, "22 just(0, 399)", x.just(0, 399), 0, 500);
        c.due("23 all RED", x.slice(1), 0);
        x.go(1);
        depths(x, "22 MOST", 1, 500, 400, 400, 400, 500);
        c.tells(x, "22 just(400, 499)", x.just(400, 499), 3, 500);
        c.tells(x, "22 just(500, 500)", x.just(500, 500), 2, 500);
        c.due("23 two PINK from 500 on", x.slice(1), 2);
        int[] pink = {1, 0, 0, 0, 1};
        for (int i = 0; i < 5; i++) {
            c.tells(x, "23 at(1, " + i + ")", x.at(1, i), 1, pink[i]);
        }
        c.finds(x, "23 as many as DEPTHS", Checks.BEYOND, () -> x.at(1, 5));
        Kitchen grey = begun("t3 c40", "b9:1");
        grey.go(1);
        depths(grey, "23 MOST", 1, 650, 400, 650);
        c.due("23 GREY from 650 on", grey.slice(0), 0);
        c.tells(grey, "23 at(0, 2)", grey.at(0, 2), 1, 2);
        c.tells(grey, "22 JUICE: 650 is above 550 by 100", grey.just(650, 4000), 2, 298);
        grey.row(0, 40);
        c.due("23 a ROW anew", grey.slice(0), 0);
        c.finds(grey, "23 a ROW anew", Checks.BEYOND, () -> grey.at(0, 3));
        Kitchen y = begun("t3 c40", "b9:1");
        c.refused(y, "23 slice(6)", Checks.BAD, () -> y.slice(6));
        c.refused(y, "23 slice(-1)", Checks.BAD, () -> y.slice(-1));
        int[][] bad = {{5, 4}, {-1, 5}, {0, 4001}, {-1, -1}, {4001, 4001}, {LOWEST, GREATEST}};
        for (int[] ab : bad) {
            c.refused(y, "22 just", Checks.BAD, () -> y.just(ab[0], ab[1]));
        }
        c.due("22 just(0, 0) is told", y.just(0, 0), 0);
        c.due("22 just(4000, 4000) is told", y.just(4000, 4000), 0);
    }

    private static void cut() {
        Kitchen x = begun("t3 c40", "b30:20");
        c.tells(x, "24 nothing is lost at 400", x.cut(0), 0, 0);
        x.go(1);
        depths(x, "24 WARMTH: boiled down", 0, 1000, 400, 1000);
        depths(x, "24 JUICE", 2, 96, 100, 96);
        c.tells(x, "24 96 times 6 by 20, twice", x.cut(0), 56, 56);
        long before = x.digest();
        c.due("24 cut(60) now", x.cut(60), 56);
        int after = x.asked();
        c.due("24 it stays", x.digest(), before);
        Kitchen y = begun("t3 c40", "b30:1");
        y.go(61);
        c.due("24 cut(60) is 60 TICKS of REST", y.cut(0), after);
        Kitchen hot = begun("t3 c40", "d b30:1 d b30:1 d b30:1 d b30:1 d b30:1 d b30:1");
        int most = 0;
        for (int i = 0; i < 6; i++) {
            hot.go(1);
            int due = 0;
            for (int k = 0; k < 3; k++) {
                hot.depth(k, 0);
                int above = Math.max(0, hot.asked() - 400);
                hot.depth(k, 2);
                most = hot.asked() > 0 ? Math.max(most, above) : most;
                due += Math.min(hot.asked(), hot.asked() * (above / 100) / 20);
            }
            c.due("24 all of it at most", hot.cut(0), due);
        }
        c.due("24 JUICE was left above 2500", most > 2100 ? 1 : 0, 1);
        c.refused(x, "24 cut(61)", Checks.BAD, () -> x.cut(61));
        c.refused(x, "24 cut(-1)", Checks.BAD, () -> x.cut(-1));
    }

    private static void rise() {
        Kitchen x = begun("t6 c0", "i30:10");
        x.go(10);
        x.depth(3, 0);
        int now = x.asked();
        int best = 0;
        int when = 0;
        for (int n = 1; n <= 60; n++) {
            Kitchen y = begun("t6 c0", "i30:10");
            y.go(10 + n);
            y.depth(3, 0);
            if (y.asked() - now > best) {
                best = y.asked() - now;
                when = n;
            }
        }
        c.due("25 it rises at all", best > 0 && when > 1 && when < 60 ? 1 : 0, 1);
        long before = x.digest();
        c.tells(x, "25 rise()", x.rise(), best, when);
        c.due("25 it stays", x.digest(), before);
        Kitchen cold = begun("t3 c40", "");
        c.tells(cold, "25 it does not rise", cold.rise(), 0, 0);
    }

    private static void wire() {
        Kitchen x = begun("t6 c5", "i30:10");
        x.go(10);
        int[] w = new int[6];
        for (int k = 0; k < 6; k++) {
            x.depth(k, 0);
            w[k] = x.asked();
        }
        for (int d = 0; d <= 9; d++) {
            int a = w[Math.max(3 - d, 0)];
            int b = w[Math.min(3 + d, 5)];
            c.tells(x, "26 wire(" + d + ")", x.wire(d), Math.min(a, b), Math.max(a, b));
        }
        Kitchen odd = begun("t3 c5", "i30:2");
        odd.go(2);
        c.tells(odd, "26 wire(0) of three DEPTHS", odd.wire(0), 236, 236);
        c.tells(odd, "26 wire(1) of three DEPTHS", odd.wire(1), 65, 1000);
        c.refused(x, "26 wire(10)", Checks.BAD, () -> x.wire(10));
        c.refused(x, "26 wire(-1)", Checks.BAD, () -> x.wire(-1));
    }

    private static void noDish() {
        Kitchen x = new Kitchen();
        x.row(0, 2);
        c.refused(x, "16 go(0) of none", Checks.STATE, () -> x.go(0));
        c.refused(x, "17 depth of none", Checks.STATE, () -> x.depth(0, 0));
        c.refused(x, "18 skin of none", Checks.STATE, () -> x.skin(0, 0));
        c.refused(x, "19 mark of none", Checks.STATE, () -> x.mark(0, 1));
        c.refused(x, "20 keep of none", Checks.STATE, () -> x.keep(0));
        c.refused(x, "22 just of none", Checks.STATE, () -> x.just(0, 1));
        c.refused(x, "23 slice of none", Checks.STATE, () -> x.slice(0));
        c.refused(x, "24 cut of none", Checks.STATE, () -> x.cut(0));
        c.refused(x, "25 rise of none", Checks.STATE, x::rise);
        c.refused(x, "26 wire of none", Checks.STATE, () -> x.wire(0));
        c.finds(x, "21 on of none", Checks.NOTHING, () -> x.on(0));
        c.refused(x, "16 BAD is ahead of STATE", Checks.BAD, () -> x.go(201));
        c.refused(x, "17 BAD is ahead of STATE", Checks.BAD, () -> x.depth(20, 0));
        c.refused(x, "19 BAD is ahead of STATE", Checks.BAD, () -> x.mark(0, 0));
    }
}
