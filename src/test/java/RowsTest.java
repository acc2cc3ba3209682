/** Promises 1 to 14: a new object, rows, texts, slabs, plans. */
public final class RowsTest {
    private static final Checks c = new Checks("RowsTest");
    private static final int LOWEST = Integer.MIN_VALUE, GREATEST = Integer.MAX_VALUE;

    public static void main(String[] args) {
        newObject();
        row();
        layAndAt();
        tear();
        copy();
        mean();
        textAndPut();
        faultOfSlab();
        faultOfPlan();
        slabAndAbout();
        planAndStep();
        c.end();
    }

    private static void newObject() {
        Kitchen x = new Kitchen();
        for (int what = 0; what <= 7; what++) {
            c.due("1 count(" + what + ")", x.count(what), 0);
        }
        for (int r = 0; r < 6; r++) {
            c.due("1 at(" + r + ", 0)", x.at(r, 0), Checks.FINDING);
        }
        c.due("1 findings(1)", x.findings(1), 6);
        for (int k = 0; k < 4; k++) {
            c.due("1 put", x.put(k, 0, 0), Checks.FINDING);
            c.due("1 about", x.about(k, 0), Checks.FINDING);
            c.due("1 step", x.step(k, 0), Checks.FINDING);
        }
        c.due("1 findings(1)", x.findings(1), 18);
        c.due("1 rise()", x.rise(), Checks.STATE);
        for (int k = 0; k < 3; k++) {
            c.due("1 on", x.on(k), Checks.FINDING);
        }
    }

    private static void row() {
        Kitchen x = new Kitchen();
        c.due("2 row(0, 3)", x.row(0, 3), 3);
        c.tells(x, "2 at(0, 2)", x.at(0, 2), 1, 0);
        c.due("2 at(0, 3)", x.at(0, 3), Checks.FINDING);
        c.due("2 row(5, 40)", x.row(5, 40), 40);
        c.tells(x, "2 at(5, 39)", x.at(5, 39), 1, 0);
        c.due("2 row(4, 0)", x.row(4, 0), 0);
        c.due("2 count(6)", x.count(6), 3);
        x.lay(0, 1, 7);
        c.due("2 row(0, 2) anew", x.row(0, 2), 2);
        c.tells(x, "2 at(0, 1) is 0 again", x.at(0, 1), 1, 0);
        c.due("2 row(0, 3) anew", x.row(0, 3), 3);
        c.refused(x, "2 row(0, 41)", Checks.BAD, () -> x.row(0, 41));
        c.refused(x, "2 row(6, 1)", Checks.BAD, () -> x.row(6, 1));
        c.refused(x, "2 row(-1, 1)", Checks.BAD, () -> x.row(-1, 1));
        c.refused(x, "2 row(6, -1): BAD is ahead of SIZE", Checks.BAD, () -> x.row(6, -1));
        c.refused(x, "2 row(0, greatest)", Checks.BAD, () -> x.row(0, GREATEST));
        c.finds(x, "2 row(0, -1)", Checks.SIZE, () -> x.row(0, -1));
        c.finds(x, "2 row(0, lowest)", Checks.SIZE, () -> x.row(0, LOWEST));
    }

    private static void layAndAt() {
        Kitchen x = new Kitchen();
        x.row(2, 2);
        c.tells(x, "3 lay(2, 1, lowest)", x.lay(2, 1, LOWEST), 1, 0);
        c.tells(x, "3 lay(2, 1, 9)", x.lay(2, 1, 9), 1, LOWEST);
        c.tells(x, "4 at(2, 1)", x.at(2, 1), 1, 9);
        c.tells(x, "4 at(2, 0)", x.at(2, 0), 1, 0);
        for (int i : new int[] {-1, 2, 40, LOWEST, GREATEST}) {
            Kitchen y = new Kitchen();
            y.row(2, 2);
            c.finds(y, "3 lay beyond", Checks.BEYOND, () -> y.lay(2, i, 1));
            c.finds(y, "4 at beyond", Checks.BEYOND, () -> y.at(2, i));
            c.finds(y, "3 lay of none", Checks.NOTHING, () -> y.lay(3, i, 1));
            c.finds(y, "4 at of none", Checks.NOTHING, () -> y.at(3, i));
        }
        for (int r : new int[] {-1, 6, LOWEST, GREATEST}) {
            c.refused(x, "3 lay of no number", Checks.BAD, () -> x.lay(r, 0, 1));
            c.refused(x, "4 at of no number", Checks.BAD, () -> x.at(r, 0));
        }
    }

    private static void tear() {
        Kitchen x = new Kitchen();
        x.row(1, 2);
        c.due("5 tear(1)", x.tear(1), 1);
        c.due("5 count(6)", x.count(6), 0);
        c.finds(x, "5 tear(1) again", Checks.NOTHING, () -> x.tear(1));
        c.refused(x, "5 tear(6)", Checks.BAD, () -> x.tear(6));
        c.refused(x, "5 tear(-1)", Checks.BAD, () -> x.tear(-1));
    }

    private static void copy() {
        Kitchen x = new Kitchen();
        x.row(0, 5);
        x.row(1, 2);
        for (int i = 0; i < 5; i++) {
            x.lay(0, i, i + 1);
        }
        c.due("6 copy within, up", x.copy(0, 0, 0, 1, 4), 1);
        c.due("6 places", places(x, 0, 5), 11234);
        c.due("6 copy within, down", x.copy(0, 2, 0, 0, 3), 1);
        c.due("6 places", places(x, 0, 5), 23434);
        c.due("6 copy to another", x.copy(0, 3, 1, 0, 2), 1);
        c.due("6 places", places(x, 1, 2), 34);
        c.due("6 copy of none at the ends", x.copy(0, 5, 1, 2, 0), 1);
        c.refused(x, "6 copy(6, ..)", Checks.BAD, () -> x.copy(6, 0, 0, 0, -1));
        c.refused(x, "6 copy(.., -1, ..)", Checks.BAD, () -> x.copy(0, 0, -1, 0, 1));
        c.finds(x, "6 n below 0 is ahead of NOTHING", Checks.SIZE, () -> x.copy(3, 0, 0, 0, -1));
        c.finds(x, "6 from none", Checks.NOTHING, () -> x.copy(3, -1, 0, 0, 0));
        c.finds(x, "6 to none", Checks.NOTHING, () -> x.copy(0, 0, 3, 0, 0));
        c.finds(x, "6 beyond what is there", Checks.BEYOND, () -> x.copy(0, 4, 1, 0, 2));
        c.finds(x, "6 beyond where it comes", Checks.BEYOND, () -> x.copy(0, 0, 1, 1, 2));
        c.finds(x, "6 none from below 0", Checks.BEYOND, () -> x.copy(0, -1, 1, 0, 0));
        c.finds(x, "6 none from above the size", Checks.BEYOND, () -> x.copy(0, 6, 1, 0, 0));
        c.finds(x, "6 none to below 0", Checks.BEYOND, () -> x.copy(0, 0, 1, -1, 0));
        c.finds(x, "6 none to above the size", Checks.BEYOND, () -> x.copy(0, 0, 1, 3, 0));
        c.finds(x, "6 far beyond", Checks.BEYOND, () -> x.copy(0, 2, 1, 0, GREATEST));
        c.finds(x, "6 far beyond", Checks.BEYOND, () -> x.copy(0, GREATEST, 1, GREATEST, GREATEST));
    }

    private static int places(Kitchen x, int r, int n) {
        int all = 0;
        for (int i = 0; i < n; i++) {
            x.at(r, i);
            all = 10 * all + x.asked();
        }
        return all;
    }

    private static void mean() {
        Kitchen x = new Kitchen();
        x.row(0, 2);
        x.lay(0, 0, 3);
        c.tells(x, "7 mean of 3, 0", x.mean(0), 1, 1);
        x.lay(0, 0, -3);
        c.tells(x, "7 mean of -3, 0: cut toward 0", x.mean(0), 1, -1);
        x.row(0, 40);
        for (int i = 0; i < 40; i++) {
            x.lay(0, i, GREATEST);
        }
        c.tells(x, "7 mean of greatest ones", x.mean(0), 1, GREATEST);
        x.row(1, 0);
        c.finds(x, "7 mean of none", Checks.NOUGHT, () -> x.mean(1));
        c.finds(x, "7 mean of no ROW", Checks.NOTHING, () -> x.mean(2));
        c.refused(x, "7 mean(6)", Checks.BAD, () -> x.mean(6));
        c.refused(x, "7 mean(-1)", Checks.BAD, () -> x.mean(-1));
    }

    private static void textAndPut() {
        Kitchen x = new Kitchen();
        c.due("8 text(0, 80)", x.text(0, 80), 80);
        c.due("9 put: it was a blank", x.put(0, 79, 300), 1032);
        c.due("9 put: 300 is 44", x.put(0, 79, 200), 1044);
        c.due("9 put: 200 is -56", x.put(0, 79, 127), 944);
        c.due("9 put: 127", x.put(0, 79, 128), 1127);
        c.due("9 put: 128 is -128", x.put(0, 79, -1), 872);
        c.due("9 put: -1", x.put(0, 79, 0), 999);
        c.due("8 text(0, 80) anew", x.text(0, 80), 80);
        c.due("8 blanks again", x.put(0, 79, 0), 1032);
        c.due("8 text(1, 0)", x.text(1, 0), 0);
        c.due("8 count(7)", x.count(7), 2);
        c.refused(x, "8 text(0, 81)", Checks.BAD, () -> x.text(0, 81));
        c.refused(x, "8 text(4, 1)", Checks.BAD, () -> x.text(4, 1));
        c.refused(x, "8 text(-1, -1)", Checks.BAD, () -> x.text(-1, -1));
        c.finds(x, "8 text(0, -1)", Checks.SIZE, () -> x.text(0, -1));
        c.refused(x, "9 put(4, ..)", Checks.BAD, () -> x.put(4, 0, 1));
        c.refused(x, "9 put(-1, ..)", Checks.BAD, () -> x.put(-1, 0, 1));
        c.finds(x, "9 put of none", Checks.NOTHING, () -> x.put(2, -1, 1));
        for (int i : new int[] {-1, 80, LOWEST, GREATEST}) {
            c.finds(x, "9 put beyond", Checks.BEYOND, () -> x.put(0, i, 1));
        }
        c.finds(x, "9 put beyond none", Checks.BEYOND, () -> x.put(1, 0, 1));
    }

    private static int faultOf(String s, boolean plan) {
        Kitchen x = new Kitchen();
        Checks.text(x, 0, s);
        int fault = x.fault(0, plan);
        int made = plan ? x.plan(0, 0) : x.slab(0, 0);
        c.due((plan ? "12" : "11") + " refused by its FAULT: " + s, made == Checks.STATE ? 1 : 0, fault == Checks.NONE ? 0 : 1);
        c.due((plan ? "12" : "11") + " there: " + s, x.count(plan ? 1 : 0), fault == Checks.NONE ? 1 : 0);
        return fault;
    }

    private static void faultOfSlab() {
        String[] good = {"", "   ", "t3", "t20", "c0", "c40", "s60", "s0", "f0", "f9", "f09", "t05", " t6 c5", "t6c5s1f1",
            "t6  t7 t8", "s9f8 ", "t3c1s2f3"};
        for (String s : good) {
            c.due("10 fault of " + s, faultOf(s, false), Checks.NONE);
        }
        due("t", 1);
        due("t2", 2);
        due("t21", 3);
        due("t0", 2);
        due("c41", 3);
        due("s61 ", 3);
        due("f10", 3);
        due("t100", 3);
        due("t ", 1);
        due("t x", 1);
        due("t1 0", 2);
        due("t 10", 1);
        due("x", 0);
        due("  T5", 2);
        due("t5,c5", 2);
        due("t5 c", 4);
        due("c99t5", 3);
        due("t5i20:3", 2);
        due("t5" + (char) 9, 2);
        due("t5" + (char) 244, 2);
        due("t:5", 1);
    }

    private static void due(String s, int place) {
        c.due("10 fault of the SLAB " + s, faultOf(s, false), place);
    }

    private static void duePlan(String s, int place) {
        c.due("10 fault of the PLAN " + s, faultOf(s, true), place);
    }

    private static void faultOfPlan() {
        String[] good = {"", " ", "u", "d", "ud du", "i2:1", "i30:60", "o02:01", "b6:60", "r1", "r60", "i20:60o20:60b20:60r20",
            " i20:5 u r5 ", "uuuuuuuuuuuu", "r1r1r1r1r1r1r1r1r1r1r1r1"};
        for (String s : good) {
            c.due("10 fault of " + s, faultOf(s, true), Checks.NONE);
        }
        duePlan("i", 1);
        duePlan("i1:5", 2);
        duePlan("i31:5", 3);
        duePlan("i20", 3);
        duePlan("i20 :5", 3);
        duePlan("i20:", 4);
        duePlan("i20: 5", 4);
        duePlan("i200:5", 3);
        duePlan("o20:0", 5);
        duePlan("b20:61", 6);
        duePlan("r0", 2);
        duePlan("r61", 3);
        duePlan("r5:5", 2);
        duePlan("u5", 1);
        duePlan("r600", 3);
        duePlan("x", 0);
        duePlan("i20:60o20:60b20:60r21", 21);
        duePlan("i20:60o20:60b20:60u i20:21", 26);
        duePlan("r60r60r60r20 r1", 15);
        duePlan("ududududududu", 12);
        duePlan("udududududud r5", 13);
        duePlan("udududududud  ", Checks.NONE);
        duePlan("t5", 0);
        Kitchen x = new Kitchen();
        c.finds(x, "10 fault of none", Checks.NOTHING, () -> x.fault(0, true));
        c.finds(x, "10 fault of none", Checks.NOTHING, () -> x.fault(3, false));
        c.refused(x, "10 fault(4)", Checks.BAD, () -> x.fault(4, true));
        c.refused(x, "10 fault(-1)", Checks.BAD, () -> x.fault(-1, false));
        Checks.text(x, 0, "u");
        c.none(x, "10 fault changes nothing", () -> x.fault(0, true));
        c.refused(x, "10 fault changes nothing", 0, () -> x.fault(0, false));
    }

    private static void slabAndAbout() {
        Kitchen x = new Kitchen();
        c.due("11 slab of no items", Checks.slab(x, 0, ""), 0);
        int[] plain = {10, 5, 0, 2};
        for (int what = 0; what <= 3; what++) {
            c.tells(x, "13 about(0, " + what + ")", x.about(0, what), 1, plain[what]);
        }
        c.due("11 slab of six items", Checks.slab(x, 3, "t3 c40s60 f9 t20 s07"), 6);
        int[] told = {20, 40, 7, 9};
        for (int what = 0; what <= 3; what++) {
            c.tells(x, "13 about(3, " + what + ")", x.about(3, what), 1, told[what]);
        }
        c.due("11 slab anew", Checks.slab(x, 3, "f0"), 1);
        c.tells(x, "13 about(3, 0) is 10 again", x.about(3, 0), 1, 10);
        c.tells(x, "13 about(3, 3)", x.about(3, 3), 1, 0);
        Checks.text(x, 0, "t5 x");
        c.refused(x, "11 slab of a FAULT", Checks.STATE, () -> x.slab(3, 0));
        c.finds(x, "11 slab of no TEXT", Checks.NOTHING, () -> x.slab(3, 1));
        c.refused(x, "11 slab(4, 1)", Checks.BAD, () -> x.slab(4, 1));
        c.refused(x, "11 slab(0, 4)", Checks.BAD, () -> x.slab(0, 4));
        c.refused(x, "11 slab(-1, 0)", Checks.BAD, () -> x.slab(-1, 0));
        c.finds(x, "13 about of none", Checks.NOTHING, () -> x.about(1, 0));
        c.refused(x, "13 about(0, 4)", Checks.BAD, () -> x.about(0, 4));
        c.refused(x, "13 about(1, -1)", Checks.BAD, () -> x.about(1, -1));
        c.refused(x, "13 about(4, 0)", Checks.BAD, () -> x.about(4, 0));
    }

    private static void planAndStep() {
        Kitchen x = new Kitchen();
        c.due("12 plan", Checks.plan(x, 0, "i23:8o2:60 b30:1 r09 u d"), 6);
        int[] kinds = {1, 2, 3, 4, 5, 6};
        int[] numbers = {2308, 260, 3001, 9, 0, 0};
        for (int i = 0; i < 6; i++) {
            c.tells(x, "14 step(0, " + i + ")", x.step(0, i), kinds[i], numbers[i]);
        }
        c.finds(x, "14 step(0, 6)", Checks.BEYOND, () -> x.step(0, 6));
        c.finds(x, "14 step(0, -1)", Checks.BEYOND, () -> x.step(0, -1));
        c.finds(x, "14 step(0, 12)", Checks.BEYOND, () -> x.step(0, 12));
        c.due("12 plan anew", Checks.plan(x, 0, "  "), 0);
        c.finds(x, "14 step(0, 0) of none", Checks.BEYOND, () -> x.step(0, 0));
        c.finds(x, "14 step(1, 0) of no PLAN", Checks.NOTHING, () -> x.step(1, 0));
        c.refused(x, "14 step(4, 0)", Checks.BAD, () -> x.step(4, 0));
        c.refused(x, "14 step(-1, 0)", Checks.BAD, () -> x.step(-1, 0));
        Checks.text(x, 0, "u u u i20");
        c.refused(x, "12 plan of a FAULT", Checks.STATE, () -> x.plan(0, 0));
        c.finds(x, "12 plan of no TEXT", Checks.NOTHING, () -> x.plan(0, 2));
        c.refused(x, "12 plan(4, 0)", Checks.BAD, () -> x.plan(4, 0));
        c.refused(x, "12 plan(0, -1)", Checks.BAD, () -> x.plan(0, -1));
    }
}
