/** The boundary cases of ANSWERS, of rows, texts, slabs and plans: promises 1 to 14. */
public final class RowsEdgesTest {
    private static final Edges e = new Edges("RowsEdgesTest");

    public static void main(String[] args) {
        newObject();
        row();
        layAndAt();
        tear();
        copy();
        mean();
        text();
        put();
        slabTexts();
        slabNumbers();
        planTexts();
        planNumbers();
        planTicksAndSteps();
        faultSlabPlan();
        about();
        step();
        e.end();
    }

    private static void newObject() {
        e.run("1 no ROWS, TEXTS, SLABS, PLANS, DISH", """
            count 0 = 0
            count 1 = 0
            count 2 = 0
            count 3 = 0
            count 4 = 0
            count 5 = 0
            count 6 = 0
            count 7 = 0
            asked = 0
            upper = 0
            lower = 1
            finding = 0
            findings 1 = 0
            findings 2 = 0
            findings 3 = 0
            findings 4 = 0
            findings 5 = 0
            """);
        e.run("1 each ROW is missing", """
            at 0 0 = NOTHING
            at 1 0 = NOTHING
            at 2 0 = NOTHING
            at 3 0 = NOTHING
            at 4 0 = NOTHING
            at 5 0 = NOTHING
            findings 1 = 6
            """);
        e.run("1 each TEXT, SLAB, PLAN, kept DISH is missing", """
            put 0 0 32 = NOTHING
            put 1 0 32 = NOTHING
            put 2 0 32 = NOTHING
            put 3 0 32 = NOTHING
            about 0 0 = NOTHING
            about 1 0 = NOTHING
            about 2 0 = NOTHING
            about 3 0 = NOTHING
            step 0 0 = NOTHING
            step 1 0 = NOTHING
            step 2 0 = NOTHING
            step 3 0 = NOTHING
            on 0 = NOTHING
            on 1 = NOTHING
            on 2 = NOTHING
            go 0 = STATE
            rise = STATE
            """);
    }

    private static void row() {
        e.run("2 a ROW is there with n ints 0: 40 at most", """
            row 0 40 = 40
            at 0 0 = 1 told 0
            at 0 39 = 1 told 0
            at 0 40 = BEYOND
            row 0 41 = BAD
            row 0 2147483647 = BAD
            at 0 39 = 1 told 0
            """);
        e.run("2 a ROW of no ints is there", """
            row 0 0 = 0
            count 6 = 1
            at 0 0 = BEYOND
            """);
        e.run("2 SIZE: below 0", """
            row 0 -1 = SIZE
            row 0 -2147483648 = SIZE
            count 6 = 0
            ROW 1: 7 8
            row 1 -1 = SIZE
            places 1 = 7 8
            row 1 41 = BAD
            places 1 = 7 8
            """);
        e.run("2 ROWS 0 .. 5", """
            row 0 1 = 1
            row 5 2 = 2
            row 6 1 = BAD
            row -1 1 = BAD
            row 2147483647 1 = BAD
            row -2147483648 1 = BAD
            count 6 = 2
            """);
        e.run("2 BAD is ahead of SIZE", """
            row 6 -1 = BAD
            row -1 -1 = BAD
            """);
        e.run("2 anew: its ints are 0 again", """
            ROW 2: 5 6 7
            row 2 2 = 2
            places 2 = 0 0
            ROW 2: 5 6
            row 2 3 = 3
            places 2 = 0 0 0
            ROW 2: 5 6 7 8 9
            row 2 0 = 0
            row 2 5 = 5
            places 2 = 0 0 0 0 0
            """);
        e.run("2 other ROWS stay", """
            ROW 0: 1
            ROW 2: 2 3
            row 1 3 = 3
            places 0 = 1
            places 2 = 2 3
            """);
    }

    private static void layAndAt() {
        e.run("3 what it was is told; 4 place i", """
            ROW 0: 5 0 7
            lay 0 0 -2147483648 = 1 told 5
            lay 0 0 2147483647 = 1 told -2147483648
            lay 0 2 1 = 1 told 7
            lay 0 2 1 = 1 told 1
            at 0 0 = 1 told 2147483647
            at 0 1 = 1 told 0
            at 0 2 = 1 told 1
            """);
        e.run("3, 4 the first and the last place; BEYOND", """
            ROW 3: 4 5 6
            at 3 -1 = BEYOND
            at 3 0 = 1 told 4
            at 3 2 = 1 told 6
            at 3 3 = BEYOND
            at 3 39 = BEYOND
            at 3 2147483647 = BEYOND
            at 3 -2147483648 = BEYOND
            lay 3 -1 9 = BEYOND
            lay 3 0 9 = 1 told 4
            lay 3 2 9 = 1 told 6
            lay 3 3 9 = BEYOND
            lay 3 39 9 = BEYOND
            lay 3 2147483647 9 = BEYOND
            lay 3 -2147483648 9 = BEYOND
            places 3 = 9 5 9
            """);
        e.run("3, 4 of an empty ROW", """
            row 0 0 = 0
            at 0 0 = BEYOND
            lay 0 0 1 = BEYOND
            at 0 -1 = BEYOND
            lay 0 -1 1 = BEYOND
            """);
        e.run("3, 4 of a full ROW", """
            row 0 40 = 40
            lay 0 39 8 = 1 told 0
            at 0 39 = 1 told 8
            at 0 40 = BEYOND
            lay 0 40 8 = BEYOND
            """);
        e.run("3, 4 BAD, NOTHING, BEYOND in this order", """
            ROW 0: 1
            ROW 5: 1
            at 6 0 = BAD
            at -1 0 = BAD
            at 6 9 = BAD
            at 1 0 = NOTHING
            at 1 -1 = NOTHING
            at 4 40 = NOTHING
            at 5 0 = 1 told 1
            at 5 1 = BEYOND
            lay 6 0 1 = BAD
            lay -1 0 1 = BAD
            lay -1 9 1 = BAD
            lay 1 0 1 = NOTHING
            lay 1 -1 1 = NOTHING
            lay 4 40 1 = NOTHING
            lay 5 0 2 = 1 told 1
            lay 5 1 2 = BEYOND
            """);
    }

    private static void tear() {
        e.run("5 a ROW is missing", """
            ROW 0: 1 2
            ROW 1: 3
            ROW 5: 4
            tear 0 = 1
            count 6 = 2
            at 0 0 = NOTHING
            tear 0 = NOTHING
            places 1 = 3
            tear 5 = 1
            count 6 = 1
            """);
        e.run("5 an empty ROW, too; and there again", """
            row 2 0 = 0
            tear 2 = 1
            tear 2 = NOTHING
            ROW 2: 6 6
            tear 2 = 1
            row 2 2 = 2
            places 2 = 0 0
            """);
        e.run("5 BAD is ahead of NOTHING", """
            tear 6 = BAD
            tear -1 = BAD
            tear 2147483647 = BAD
            tear 5 = NOTHING
            tear 0 = NOTHING
            """);
    }

    private static void copy() {
        e.run("6 as if taken ahead: to itself", """
            ROW 0: 1 2 3 4 5
            copy 0 0 0 1 4 = 1
            places 0 = 1 1 2 3 4
            copy 0 1 0 0 4 = 1
            places 0 = 1 2 3 4 4
            copy 0 0 0 0 5 = 1
            places 0 = 1 2 3 4 4
            copy 0 0 0 2 3 = 1
            places 0 = 1 2 1 2 3
            """);
        e.run("6 to another one; the one taken from stays", """
            ROW 0: 1 2 3
            ROW 5: 0 0 0 0
            copy 0 0 5 1 3 = 1
            places 5 = 0 1 2 3
            places 0 = 1 2 3
            copy 5 3 0 0 1 = 1
            places 0 = 3 2 3
            """);
        e.run("6 all forty", """
            ROW 0: 1 2 3
            row 1 40 = 40
            row 2 40 = 40
            lay 1 39 9 = 1 told 0
            lay 1 0 8 = 1 told 0
            copy 1 0 2 0 40 = 1
            at 2 0 = 1 told 8
            at 2 39 = 1 told 9
            copy 1 0 2 0 41 = BEYOND
            copy 1 1 2 0 40 = BEYOND
            copy 1 0 2 1 40 = BEYOND
            copy 1 1 2 1 39 = 1
            at 2 39 = 1 told 9
            """);
        e.run("6 not so many there: from", """
            ROW 0: 1 2 3
            ROW 1: 0 0 0 0 0
            copy 0 1 1 0 2 = 1
            copy 0 1 1 0 3 = BEYOND
            copy 0 2 1 0 1 = 1
            copy 0 2 1 0 2 = BEYOND
            copy 0 3 1 0 1 = BEYOND
            copy 0 -1 1 0 1 = BEYOND
            copy 0 -1 1 0 2 = BEYOND
            places 1 = 3 3 0 0 0
            """);
        e.run("6 not so many there: to", """
            ROW 0: 1 2 3 4 5
            ROW 1: 0 0 0
            copy 0 0 1 1 2 = 1
            copy 0 0 1 1 3 = BEYOND
            copy 0 0 1 2 1 = 1
            copy 0 0 1 2 2 = BEYOND
            copy 0 0 1 3 1 = BEYOND
            copy 0 0 1 -1 1 = BEYOND
            copy 0 0 1 -1 2 = BEYOND
            places 1 = 0 1 1
            """);
        e.run("6 also with n 0, if i, j is below 0, or above its size", """
            ROW 0: 1 2 3
            ROW 1: 4 5
            copy 0 0 1 0 0 = 1
            copy 0 3 1 2 0 = 1
            copy 0 4 1 0 0 = BEYOND
            copy 0 -1 1 0 0 = BEYOND
            copy 0 0 1 3 0 = BEYOND
            copy 0 0 1 -1 0 = BEYOND
            copy 0 2147483647 1 0 0 = BEYOND
            copy 0 0 1 -2147483648 0 = BEYOND
            places 0 = 1 2 3
            places 1 = 4 5
            row 2 0 = 0
            copy 2 0 2 0 0 = 1
            copy 2 0 2 0 1 = BEYOND
            copy 2 1 2 0 0 = BEYOND
            copy 2 0 2 1 0 = BEYOND
            """);
        e.run("6 numbers that do not fit together as ints", """
            ROW 0: 1 2 3
            copy 0 1 0 1 2147483647 = BEYOND
            copy 0 2147483647 0 0 1 = BEYOND
            copy 0 0 0 2147483647 1 = BEYOND
            copy 0 2147483647 0 2147483647 2147483647 = BEYOND
            copy 0 -2147483648 0 0 2147483647 = BEYOND
            places 0 = 1 2 3
            """);
        e.run("6 BAD, SIZE, NOTHING, BEYOND in this order", """
            ROW 0: 1 2
            copy 6 0 0 0 1 = BAD
            copy -1 0 0 0 1 = BAD
            copy 0 0 6 0 1 = BAD
            copy 0 0 -1 0 1 = BAD
            copy 6 0 0 0 -1 = BAD
            copy 3 9 6 9 -1 = BAD
            copy 0 0 0 0 -1 = SIZE
            copy 0 0 0 0 -2147483648 = SIZE
            copy 3 0 0 0 -1 = SIZE
            copy 0 0 3 0 -1 = SIZE
            copy 0 9 0 9 -1 = SIZE
            copy 3 0 0 0 0 = NOTHING
            copy 0 0 3 0 0 = NOTHING
            copy 3 0 4 0 0 = NOTHING
            copy 3 -1 0 9 1 = NOTHING
            copy 0 9 3 0 1 = NOTHING
            copy 0 9 0 0 1 = BEYOND
            """);
    }

    private static void mean() {
        e.run("7 the mean of a ROW's ints, cut", """
            ROW 0: 3 4
            mean 0 = 1 told 3
            ROW 0: -3 -4
            mean 0 = 1 told -3
            ROW 0: 3 3 2
            mean 0 = 1 told 2
            ROW 0: 1 -1
            mean 0 = 1 told 0
            ROW 0: -7
            mean 0 = 1 told -7
            ROW 0: 0 0 0
            mean 0 = 1 told 0
            """);
        e.run("7 of numbers whose sum is no int", """
            ROW 0: 2147483647 2147483647 2147483647
            mean 0 = 1 told 2147483647
            ROW 1: -2147483648 -2147483648
            mean 1 = 1 told -2147483648
            ROW 2: 2147483647 2147483646
            mean 2 = 1 told 2147483646
            ROW 3: 2147483647 -2147483648
            mean 3 = 1 told 0
            """);
        e.run("7 BAD, NOTHING, NOUGHT", """
            row 0 0 = 0
            row 5 1 = 1
            mean 6 = BAD
            mean -1 = BAD
            mean 1 = NOTHING
            mean 0 = NOUGHT
            mean 5 = 1 told 0
            """);
    }

    private static void text() {
        e.run("8 a TEXT is there with n blanks: 80 at most", """
            text 0 80 = 80
            put 0 0 32 = 1032
            put 0 79 32 = 1032
            put 0 80 32 = BEYOND
            text 0 81 = BAD
            text 0 2147483647 = BAD
            put 0 79 32 = 1032
            """);
        e.run("8 a TEXT of no signs is there", """
            text 0 0 = 0
            count 7 = 1
            put 0 0 32 = BEYOND
            fault 0 slab = NONE
            fault 0 plan = NONE
            """);
        e.run("8 SIZE: below 0", """
            text 0 -1 = SIZE
            text 0 -2147483648 = SIZE
            count 7 = 0
            TEXT 1 "t5"
            text 1 -1 = SIZE
            text 1 81 = BAD
            put 1 1 53 = 1053
            """);
        e.run("8 TEXTS 0 .. 3; BAD is ahead of SIZE", """
            text 0 1 = 1
            text 3 1 = 1
            text 4 1 = BAD
            text -1 1 = BAD
            text 4 -1 = BAD
            text -1 -1 = BAD
            text 2147483647 1 = BAD
            count 7 = 2
            """);
        e.run("8 anew: blanks again", """
            TEXT 2 "abc"
            text 2 2 = 2
            put 2 0 1 = 1032
            put 2 1 1 = 1032
            text 2 3 = 3
            put 2 0 1 = 1032
            put 2 2 1 = 1032
            """);
    }

    private static void put() {
        e.run("9 cut to a byte (-128 .. 127): what it was, and 1000 more", """
            text 0 1 = 1
            put 0 0 127 = 1032
            put 0 0 128 = 1127
            put 0 0 -128 = 872
            put 0 0 -129 = 872
            put 0 0 255 = 1127
            put 0 0 256 = 999
            put 0 0 0 = 1000
            put 0 0 -1 = 1000
            put 0 0 2147483647 = 999
            put 0 0 -2147483648 = 999
            put 0 0 305 = 1000
            put 0 0 32 = 1049
            """);
        e.run("9 BAD, NOTHING, BEYOND in this order", """
            TEXT 0 "abc"
            TEXT 3 "xyz"
            put 4 0 1 = BAD
            put -1 0 1 = BAD
            put 4 9 1 = BAD
            put 1 0 1 = NOTHING
            put 2 -1 1 = NOTHING
            put 0 -1 1 = BEYOND
            put 0 0 1 = 1097
            put 0 2 1 = 1099
            put 0 3 1 = BEYOND
            put 0 79 1 = BEYOND
            put 0 2147483647 1 = BEYOND
            put 0 -2147483648 1 = BEYOND
            put 3 2 1 = 1122
            put 3 3 1 = BEYOND
            """);
    }

    private static void slabTexts() {
        e.run("10 blanks ahead, between, behind as many as wanted", """
            FAULT slab "" = NONE
            FAULT slab " " = NONE
            FAULT slab "    " = NONE
            FAULT slab "t5" = NONE
            FAULT slab "  t5" = NONE
            FAULT slab "t5  " = NONE
            FAULT slab "t5c5s5f5" = NONE
            FAULT slab " t5 c5   s5f5 " = NONE
            """);
        e.run("10 a TEXT of eighty signs", """
            FAULT slab "                                                                                " = NONE
            FAULT slab "                                                                              t5" = NONE
            FAULT slab "                                                                               t" = 80
            FAULT slab "t5                                                                             c" = 80
            FAULT slab "t5t5t5t5t5t5t5t5t5t5t5t5t5t5t5t5t5t5t5t5t5t5t5t5t5t5t5t5t5t5t5t5t5t5t5t5t5t5t5t5" = NONE
            slab 1 3 = 40
            """);
        e.run("10 no blanks within items", """
            FAULT slab "t 5" = 1
            FAULT slab "t1 0" = 2
            FAULT slab "c1 0" = 3
            FAULT slab " s  6" = 2
            """);
        e.run("10 items: a letter", """
            FAULT slab "x" = 0
            FAULT slab "5" = 0
            FAULT slab "  5" = 2
            FAULT slab "T5" = 0
            FAULT slab "C5" = 0
            FAULT slab "S5" = 0
            FAULT slab "F5" = 0
            FAULT slab "i5" = 0
            FAULT slab "u" = 0
            FAULT slab "r5" = 0
            FAULT slab "t5x" = 2
            FAULT slab "t5 x" = 3
            FAULT slab "t5,c5" = 2
            FAULT slab "tc5" = 1
            FAULT slab "t5cc5" = 3
            FAULT slab "t-5" = 1
            FAULT slab "t+5" = 1
            FAULT slab "t5.5" = 2
            """);
        e.run("10 one or two figures", """
            FAULT slab "t" = 1
            FAULT slab "t5" = NONE
            FAULT slab "t05" = NONE
            FAULT slab "t005" = 3
            FAULT slab "c0" = NONE
            FAULT slab "c00" = NONE
            FAULT slab "c000" = 3
            FAULT slab "t100" = 3
            FAULT slab "t200" = 3
            FAULT slab "f9" = NONE
            FAULT slab "f09" = NONE
            FAULT slab "f009" = 3
            FAULT slab "t/" = 1
            FAULT slab "t:" = 1
            FAULT slab "t5/" = 2
            FAULT slab "t5:" = 2
            """);
        e.run("10 the TEXT's size, if its end comes too early", """
            FAULT slab "t" = 1
            FAULT slab "c" = 1
            FAULT slab "s" = 1
            FAULT slab "f" = 1
            FAULT slab "   f" = 4
            FAULT slab "t5 c" = 4
            FAULT slab "t5c" = 3
            """);
        e.run("10 blanks are 32 alone; signs below 0", """
            TEXT 0 "t5 c5"
            put 0 2 9 = 1032
            fault 0 slab = 2
            put 0 2 10 = 1009
            fault 0 slab = 2
            put 0 2 0 = 1010
            fault 0 slab = 2
            put 0 2 160 = 1000
            fault 0 slab = 2
            put 0 2 31 = 904
            fault 0 slab = 2
            put 0 2 33 = 1031
            fault 0 slab = 2
            put 0 2 32 = 1033
            fault 0 slab = NONE
            put 0 0 -140 = 1116
            fault 0 slab = NONE
            put 0 0 -12 = 1116
            fault 0 slab = 0
            """);
    }

    private static void slabNumbers() {
        e.run("10 THICK 3 .. 20: a number out of these: the place behind", """
            FAULT slab "t3" = NONE
            FAULT slab "t2" = 2
            FAULT slab "t0" = 2
            FAULT slab "t02" = 3
            FAULT slab "t03" = NONE
            FAULT slab "t20" = NONE
            FAULT slab "t21" = 3
            FAULT slab "t99" = 3
            FAULT slab "t2 c5" = 2
            FAULT slab "t21c5" = 3
            """);
        e.run("10 COLD 0 .. 40", """
            FAULT slab "c0" = NONE
            FAULT slab "c40" = NONE
            FAULT slab "c41" = 3
            FAULT slab "c99" = 3
            FAULT slab "c41 t5" = 3
            """);
        e.run("10 SALT 0 .. 60", """
            FAULT slab "s0" = NONE
            FAULT slab "s60" = NONE
            FAULT slab "s61" = 3
            FAULT slab "s99" = 3
            """);
        e.run("10 FAT 0 .. 9", """
            FAULT slab "f0" = NONE
            FAULT slab "f9" = NONE
            FAULT slab "f10" = 3
            FAULT slab "f99" = 3
            """);
        e.run("10 a FAULT is the first place", """
            FAULT slab "t2 c41" = 2
            FAULT slab "c41 x" = 3
            FAULT slab "t2 t5" = 2
            FAULT slab "t5 t2" = 5
            FAULT slab "x t2" = 0
            """);
    }

    private static void planTexts() {
        e.run("10 blanks likewise; STEPS: none", """
            FAULT plan "" = NONE
            FAULT plan "   " = NONE
            FAULT plan "  u" = NONE
            FAULT plan "u  " = NONE
            FAULT plan " i2:1  u d r1 " = NONE
            FAULT plan "i2:1ud r1o2:1b2:1" = NONE
            FAULT plan "                                                                                " = NONE
            FAULT plan "                                                                               u" = NONE
            FAULT plan "                                                                               r" = 80
            """);
        e.run("10 STEPS: letters", """
            FAULT plan "x" = 0
            FAULT plan "t5" = 0
            FAULT plan "I2:1" = 0
            FAULT plan "U" = 0
            FAULT plan "ux" = 1
            FAULT plan "u x" = 2
            FAULT plan "u5" = 1
            FAULT plan "d:" = 1
            FAULT plan "5" = 0
            FAULT plan ":" = 0
            FAULT plan "u;d" = 1
            """);
        e.run("10 no blanks within STEPS", """
            FAULT plan "i 20:5" = 1
            FAULT plan "i20 :5" = 3
            FAULT plan "i20: 5" = 4
            FAULT plan "i2 0:5" = 2
            FAULT plan "i20:5 0" = 6
            FAULT plan "r 5" = 1
            FAULT plan "r5 0" = 3
            """);
        e.run("10 the sign between q and n", """
            FAULT plan "i20" = 3
            FAULT plan "i20;5" = 3
            FAULT plan "i20u" = 3
            FAULT plan "o20.5" = 3
            FAULT plan "b2" = 2
            FAULT plan "b25" = 3
            FAULT plan "i20::5" = 4
            FAULT plan "i:5" = 1
            FAULT plan "r:5" = 1
            FAULT plan "r5:5" = 2
            FAULT plan "i2:5:5" = 4
            """);
        e.run("10 a PLAN: one or two figures", """
            FAULT plan "i2:1" = NONE
            FAULT plan "i02:01" = NONE
            FAULT plan "i002:1" = 3
            FAULT plan "i20:001" = 6
            FAULT plan "i200:5" = 3
            FAULT plan "i20:100" = 6
            FAULT plan "r01" = NONE
            FAULT plan "r001" = 3
            FAULT plan "r100" = 3
            """);
        e.run("10 a PLAN: the TEXT's size, if its end comes too early", """
            FAULT plan "i" = 1
            FAULT plan "o" = 1
            FAULT plan "b" = 1
            FAULT plan "r" = 1
            FAULT plan "i2" = 2
            FAULT plan "i20:" = 4
            FAULT plan "u r" = 3
            """);
    }

    private static void planNumbers() {
        e.run("10 q 2 .. 30: the place behind", """
            FAULT plan "i2:5" = NONE
            FAULT plan "i1:5" = 2
            FAULT plan "i0:5" = 2
            FAULT plan "i01:5" = 3
            FAULT plan "i30:5" = NONE
            FAULT plan "i31:5" = 3
            FAULT plan "i99:5" = 3
            FAULT plan "o2:5" = NONE
            FAULT plan "o1:5" = 2
            FAULT plan "o30:5" = NONE
            FAULT plan "o31:5" = 3
            FAULT plan "b2:5" = NONE
            FAULT plan "b1:5" = 2
            FAULT plan "b30:5" = NONE
            FAULT plan "b31:5" = 3
            """);
        e.run("10 n 1 .. 60: the place behind", """
            FAULT plan "i20:1" = NONE
            FAULT plan "i20:0" = 5
            FAULT plan "i20:00" = 6
            FAULT plan "i20:60" = NONE
            FAULT plan "i20:61" = 6
            FAULT plan "o20:1" = NONE
            FAULT plan "o20:0" = 5
            FAULT plan "o20:60" = NONE
            FAULT plan "o20:61" = 6
            FAULT plan "b20:1" = NONE
            FAULT plan "b20:0" = 5
            FAULT plan "b20:60" = NONE
            FAULT plan "b20:61" = 6
            FAULT plan "r1" = NONE
            FAULT plan "r0" = 2
            FAULT plan "r00" = 3
            FAULT plan "r60" = NONE
            FAULT plan "r61" = 3
            FAULT plan "r99" = 3
            """);
        e.run("10 a PLAN: a FAULT is the first place", """
            FAULT plan "i1:0" = 2
            FAULT plan "i31" = 3
            FAULT plan "i1" = 2
            FAULT plan "i20:0 x" = 5
            FAULT plan "r0 r0" = 2
            """);
    }

    private static void planTicksAndSteps() {
        e.run("10 all TICKS together 200 at most: the place behind", """
            FAULT plan "i20:60o20:60b20:60r20" = NONE
            FAULT plan "i20:60o20:60b20:60r21" = 21
            FAULT plan "r60r60r60r20" = NONE
            FAULT plan "r60r60r60r21" = 12
            FAULT plan "r60r60r60r20r1" = 14
            FAULT plan "r60r60r60r20 u d" = NONE
            FAULT plan "r60r60r60r20 i20:1" = 18
            FAULT plan "r60r60r60i20:21 x" = 15
            FAULT plan "r60r60r60r60" = 12
            FAULT plan "r60r60r60o2:60" = 14
            FAULT plan "r60r60r60b2:20" = NONE
            FAULT plan "r60r60r60r61" = 12
            """);
        e.run("10 STEPS: 12 at most; a thirteenth STEP: its letter", """
            FAULT plan "udududududud" = NONE
            FAULT plan "ududududududu" = 12
            FAULT plan "udududududud  " = NONE
            FAULT plan "udududududud  d" = 14
            FAULT plan "udududududud r5" = 13
            FAULT plan "ududududududi" = 12
            FAULT plan "ududududududx" = 12
            FAULT plan "r1r1r1r1r1r1r1r1r1r1r1r1" = NONE
            FAULT plan "r1r1r1r1r1r1r1r1r1r1r1r1r1" = 24
            FAULT plan "r60r60r60r20uuuuuuuu r1" = 21
            FAULT plan "i2:1o2:1b2:1r1udi2:1o2:1b2:1r1ud" = NONE
            plan 1 3 = 12
            """);
    }

    private static void faultSlabPlan() {
        e.run("10 fault: BAD, NOTHING; it changes nothing", """
            TEXT 0 "t5"
            TEXT 3 "u"
            fault 4 slab = BAD
            fault -1 slab = BAD
            fault 4 plan = BAD
            fault -1 plan = BAD
            fault 1 slab = NOTHING
            fault 2 plan = NOTHING
            fault 0 slab = NONE
            fault 0 plan = 0
            fault 3 plan = NONE
            fault 3 slab = 0
            """);
        e.run("11 SLABS 0 .. 3, TEXTS 0 .. 3: BAD, NOTHING, STATE", """
            TEXT 0 "t5"
            TEXT 3 "c7"
            TEXT 1 "x"
            slab 0 0 = 1
            slab 3 3 = 1
            slab 4 0 = BAD
            slab -1 0 = BAD
            slab 0 4 = BAD
            slab 0 -1 = BAD
            slab 4 2 = BAD
            slab 4 1 = BAD
            slab 0 2 = NOTHING
            slab 0 1 = STATE
            slab 2 1 = STATE
            count 0 = 2
            about 0 0 = 1 told 5
            about 2 0 = NOTHING
            """);
        e.run("11 how many items; of a letter told again the last one counts", """
            TEXT 0 "t3"
            slab 0 0 = 1
            TEXT 0 ""
            slab 0 0 = 0
            about 0 0 = 1 told 10
            TEXT 0 "t3 t20 t7"
            slab 0 0 = 3
            about 0 0 = 1 told 7
            TEXT 0 "c1s2f3c4s5f6"
            slab 0 0 = 6
            about 0 1 = 1 told 4
            about 0 2 = 1 told 5
            about 0 3 = 1 told 6
            about 0 0 = 1 told 10
            """);
        e.run("11 anew: what is not told is as if it never was", """
            SLAB 1 "t20 c40 s60 f9"
            SLAB 1 "t3"
            about 1 0 = 1 told 3
            about 1 1 = 1 told 5
            about 1 2 = 1 told 0
            about 1 3 = 1 told 2
            """);
        e.run("11 a SLAB stays as its TEXT changes", """
            TEXT 0 "t7"
            slab 0 0 = 1
            put 0 1 56 = 1055
            about 0 0 = 1 told 7
            text 0 0 = 0
            about 0 0 = 1 told 7
            """);
        e.run("12 PLANS 0 .. 3: BAD, NOTHING, STATE", """
            TEXT 0 "u d"
            TEXT 3 "r5"
            TEXT 1 "x"
            plan 0 0 = 2
            plan 3 3 = 1
            plan 4 0 = BAD
            plan -1 0 = BAD
            plan 0 4 = BAD
            plan 0 -1 = BAD
            plan 4 2 = BAD
            plan 4 1 = BAD
            plan 0 2 = NOTHING
            plan 0 1 = STATE
            plan 2 1 = STATE
            count 1 = 2
            step 0 1 = 6 told 0
            step 2 0 = NOTHING
            """);
        e.run("12 how many STEPS; anew", """
            PLAN 0 "i20:5 u d r60"
            TEXT 0 "r7"
            plan 0 0 = 1
            step 0 0 = 4 told 7
            step 0 1 = BEYOND
            TEXT 0 ""
            plan 0 0 = 0
            step 0 0 = BEYOND
            TEXT 0 "u u u u u u u u u u u u"
            plan 0 0 = 12
            """);
    }

    private static void about() {
        e.run("13 if not told: THICK 10, COLD 5, SALT 0, FAT 2", """
            SLAB 0 ""
            about 0 0 = 1 told 10
            about 0 1 = 1 told 5
            about 0 2 = 1 told 0
            about 0 3 = 1 told 2
            """);
        e.run("13 the least and the greatest", """
            SLAB 0 "t3c0s0f0"
            SLAB 3 "t20c40s60f9"
            about 0 0 = 1 told 3
            about 0 1 = 1 told 0
            about 0 2 = 1 told 0
            about 0 3 = 1 told 0
            about 3 0 = 1 told 20
            about 3 1 = 1 told 40
            about 3 2 = 1 told 60
            about 3 3 = 1 told 9
            """);
        e.run("13 BAD is ahead of NOTHING", """
            SLAB 0 ""
            about 4 0 = BAD
            about -1 0 = BAD
            about 0 4 = BAD
            about 0 -1 = BAD
            about 1 4 = BAD
            about 1 -1 = BAD
            about 1 0 = NOTHING
            about 3 3 = NOTHING
            """);
    }

    private static void step() {
        e.run("14 each STEP; 100 times q and n; REST: n; TURN, DRY: 0", """
            PLAN 0 "i2:1 o30:60 b2:60 r60 u d r1 i30:1"
            step 0 0 = 1 told 201
            step 0 1 = 2 told 3060
            step 0 2 = 3 told 260
            step 0 3 = 4 told 60
            step 0 4 = 5 told 0
            step 0 5 = 6 told 0
            step 0 6 = 4 told 1
            step 0 7 = 1 told 3001
            step 0 8 = BEYOND
            """);
        e.run("14 the first and the last of twelve", """
            PLAN 3 "u u u u u u u u u u u d"
            step 3 -1 = BEYOND
            step 3 0 = 5 told 0
            step 3 11 = 6 told 0
            step 3 12 = BEYOND
            step 3 2147483647 = BEYOND
            step 3 -2147483648 = BEYOND
            """);
        e.run("14 BAD, NOTHING, BEYOND in this order", """
            PLAN 0 ""
            step 4 0 = BAD
            step -1 0 = BAD
            step 4 -1 = BAD
            step 1 0 = NOTHING
            step 1 -1 = NOTHING
            step 3 12 = NOTHING
            step 0 0 = BEYOND
            step 0 -1 = BEYOND
            """);
    }
}
