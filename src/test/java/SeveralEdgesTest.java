/** The boundary cases of promises 35 to 41: several slabs, orders, baths, slices, a rule. */
public final class SeveralEdgesTest {
    /** SLABS 0, 3, PLANS 0, 3, ROWS 0, 5 are there. */
    private static final String KITCHEN = """
        SLAB 0 "t3 c5"
        SLAB 3 "t4 c20 s3 f5"
        PLAN 0 "i28:9"
        PLAN 3 ""
        ROW 0: 0 0 0
        ROW 5: 1 1 1 1
        """;
    private static final Edges e = new Edges("SeveralEdgesTest");

    public static void main(String[] args) {
        same();
        sameLimits();
        dishStays();
        order();
        orderByNumbers();
        orderLimits();
        both();
        bothLimits();
        safe();
        which();
        slices();
        odds();
        rule();
        e.end();
    }

    private static void same() {
        e.run("35 till THE MIDDLE has a MOST of v or more: 1 TICK at least", """
            # THE MIDDLE has a MOST of 50, 50, 236 by TICK 0, 1, 2.
            SLAB 0 "t3 c5"
            PLAN 0 "i30:3"
            dish 0 0 = 3
            go 1 = 1
            depth 1 1 = 1 told 50
            go 1 = 2
            depth 1 1 = 1 told 236
            same 0 0 30 60 0 50 = 0 told 0
            same 0 0 30 60 50 51 = 1 told 1
            same 0 0 30 60 51 50 = 1 told 0
            same 0 0 30 60 236 51 = 0 told 0
            same 0 0 30 60 236 237 = 1 told 1
            """);
        e.run("35 to 200 TICKS", """
            # THE MIDDLE has a MOST of 714 by TICK 199, of 716 by TICK 200.
            SLAB 0 "t10 c5"
            SLAB 1 "t3 c5"
            PLAN 0 "i10:57 u i10:57 u i10:57 u i10:29"
            dish 0 0 = 200
            go 199 = 199
            depth 5 1 = 1 told 714
            go 1 = 200
            depth 5 1 = 1 told 716
            same 0 0 10 57 714 0 = 198 told 0
            same 0 0 10 57 715 0 = 199 told 0
            same 0 0 10 57 716 0 = 199 told 0
            same 0 0 10 57 0 716 = 199 told 1
            same 0 0 10 57 716 716 = 0 told 0
            same 0 0 10 57 717 0 = NONE
            same 0 0 10 57 0 717 = NONE
            same 0 0 10 57 717 717 = NONE
            same 1 0 10 57 0 717 = NONE
            same 0 1 10 57 717 0 = NONE
            """);
        e.run("35 turned each t", """
            SLAB 0 "t3 c5"
            PLAN 0 "i10:1 u i10:1 u i10:1 u i10:1"
            same 0 0 10 1 300 0 = 4 told 0
            same 0 0 10 60 300 0 = 5 told 0
            same 0 0 10 60 0 300 = 5 told 1
            """);
        e.run("35 which it is: alike: 0; a SLAB and another one", """
            SLAB 0 "t3 c5"
            SLAB 1 "t8 c5"
            same 0 1 20 2 500 500 = 18 told 1
            same 1 0 20 2 500 500 = 18 told 0
            same 0 0 20 2 500 500 = 0 told 0
            same 1 1 20 2 500 500 = 0 told 0
            """);
    }

    private static void sameLimits() {
        e.run("35 q 10 .. 30, t 1 .. 60, v, w 0 .. 2000", KITCHEN + """
            same 0 3 9 1 100 100 = BAD
            same 0 3 10 1 100 100 = 1
            same 0 3 30 1 100 100 = 1
            same 0 3 31 1 100 100 = BAD
            same 0 3 20 0 100 100 = BAD
            same 0 3 20 60 100 100 = 1
            same 0 3 20 61 100 100 = BAD
            same 0 3 20 1 -1 100 = BAD
            same 0 3 20 1 0 100 = 0
            same 0 3 30 60 2000 100 = 36
            same 0 3 20 1 2000 100 = NONE
            same 0 3 20 1 2001 100 = BAD
            same 0 3 20 1 100 -1 = BAD
            same 0 3 20 1 100 0 = 1
            same 0 3 20 1 100 2000 = NONE
            same 0 3 20 1 100 2001 = BAD
            """);
        e.run("35 SLABS 0 .. 3; BAD is ahead of NOTHING", KITCHEN + """
            same -1 0 20 1 100 100 = BAD
            same 4 0 20 1 100 100 = BAD
            same 0 -1 20 1 100 100 = BAD
            same 0 4 20 1 100 100 = BAD
            same 1 4 20 1 100 100 = BAD
            same 4 1 20 1 100 100 = BAD
            same 1 0 31 1 100 100 = BAD
            same 1 0 20 61 100 100 = BAD
            same 0 2 20 1 2001 100 = BAD
            same 0 2 20 1 100 2001 = BAD
            same 1 0 20 1 100 100 = NOTHING
            same 0 1 20 1 100 100 = NOTHING
            same 1 2 20 1 2000 2000 = NOTHING
            same 3 3 20 1 100 100 = 0
            """);
    }

    private static void order() {
        e.run("36 each RESTS as many TICKS as all STEPS of those behind it", """
            SLAB 0 "t6 c10 f4"
            SLAB 1 "t4 c20"
            PLAN 0 "i24:9 u i24:9"
            PLAN 1 "o30:7 i20:4"
            dish 0 0 = 18
            go 18 = 18
            cut 0 = 84 told 84
            cut 11 = 84 told 47
            dish 1 1 = 11
            go 11 = 11
            cut 18 = 67 told 21
            # 47 and 67 together, or 21 and 84
            order 3 0 = 105
            places 0 = 1 0
            order 1 0 = 84
            places 0 = 0
            order 2 0 = 67
            places 0 = 1
            """);
        e.run("36 by TICKS of all behind it, not of one", """
            SLAB 0 "t6 c10 f4"
            SLAB 1 "t4 c20"
            SLAB 2 "t9 c5 s12"
            SLAB 3 "t3 c30 f9"
            PLAN 0 "i24:9 u i24:9"
            PLAN 1 "o30:7 i20:4"
            PLAN 2 "b8:30 i30:5 u i30:5"
            PLAN 3 "i28:4 u i28:4 r3 u"
            order 7 0 = 103
            places 0 = 0 1 2
            order 15 1 = 96
            places 1 = 0 1 3 2
            order 14 2 = 96
            places 2 = 1 3 2
            order 12 3 = 96
            places 3 = 3 2
            order 9 4 = 90
            places 4 = 0 3
            order 8 5 = 43
            places 5 = 3
            """);
        e.run("36 of PLANS that take 200 TICKS each: behind TICK 300, too", """
            SLAB 0 "t20 c40"
            SLAB 1 "t20 c40"
            SLAB 2 "t20 c40 s60"
            SLAB 3 "t19 c40"
            PLAN 0 "b7:50 b7:50 b7:50 b7:50"
            PLAN 1 "b8:50 b8:50 b8:50 b8:50"
            PLAN 2 "r50 r50 r50 r50"
            PLAN 3 "o20:50 o20:50 o20:50 o20:50"
            order 15 0 = 0
            places 0 = 0 1 2 3
            order 3 0 = 98
            places 0 = 0 1
            order 4 0 = 0
            order 8 0 = 0
            """);
        e.run("36 made to its end: a DRY behind all TICKS is done", """
            SLAB 0 "t3 c40"
            SLAB 1 "t3"
            PLAN 0 "d b30:1 d"
            PLAN 1 "r4"
            PLAN 2 "d b30:1"
            rest 0 0 = 29 told 1
            rest 0 2 = 25 told 6
            order 3 0 = 64
            order 1 0 = 114
            PLAN 0 "d b30:1"
            order 3 0 = 56
            order 1 0 = 114
            """);
    }

    private static void dishStays() {
        e.run("3 the DISH stays as it is", """
            SLAB 0 "t4 c20"
            SLAB 1 "t5"
            PLAN 0 "i20:5 u i20:5 r3"
            PLAN 1 "b6:9"
            ROW 0: 2 1 1 1
            dish 0 0 = 13
            go 7 = 7
            same 0 1 28 3 500 500 = 4 told 1
            both 1 0 20 500 900 = 13 told 2
            safe 0 7 = 29 told 691
            which 0 = 0 told 3
            odds 0 0 = 2
            upper = 1
            lower = 2
            rule 0 28 3 500 = 3 told 124
            depths 2 = 81 100 100 96
            order 3 1 = 37
            places 1 = 0 1
            depths 2 = 81 100 100 96
            go 3 = 10
            """);
    }

    private static void orderByNumbers() {
        e.run("36 the first such order (by numbers)", """
            # Nothing is lost by any.
            SLAB 0 ""
            SLAB 1 ""
            SLAB 2 ""
            SLAB 3 ""
            PLAN 0 ""
            PLAN 1 "r5"
            PLAN 2 "u"
            PLAN 3 "r60"
            order 15 0 = 0
            places 0 = 0 1 2 3
            order 13 0 = 0
            places 0 = 0 2 3
            order 10 0 = 0
            places 0 = 1 3
            order 6 0 = 0
            places 0 = 1 2
            """);
        e.run("36 alike ones of an order that is not by numbers", """
            # PLANS 0, 2 take no TICKS and lose nothing: where they come is alike.
            SLAB 0 "t3 c0"
            SLAB 1 "t6 c10 f4"
            SLAB 2 "t3 c0"
            SLAB 3 "t4 c20"
            PLAN 0 ""
            PLAN 1 "i24:9 u i24:9"
            PLAN 2 ""
            PLAN 3 "o30:7 i20:4"
            order 15 0 = 105
            places 0 = 0 2 3 1
            order 10 0 = 105
            places 0 = 3 1
            order 14 0 = 105
            places 0 = 2 3 1
            """);
        e.run("36 the DISH stays, SLABS and PLANS, too; the ROW comes anew", KITCHEN + """
            dish 0 0 = 9
            go 4 = 4
            ROW 0: 7 7 7 7 7 7
            order 9 0 = 57
            places 0 = 0 3
            order 8 2 = 0
            places 2 = 3
            go 1 = 5
            """);
    }

    private static void orderLimits() {
        e.run("36 a set: bits 1 .. 15; ROWS 0 .. 5", KITCHEN + """
            order 0 0 = BAD
            order -1 0 = BAD
            order 16 0 = BAD
            order 17 0 = BAD
            order 2147483647 0 = BAD
            order -2147483648 0 = BAD
            order 1 6 = BAD
            order 1 -1 = BAD
            places 0 = 0 0 0
            order 1 0 = 57
            order 9 5 = 57
            places 5 = 0 3
            """);
        e.run("36 NOTHING: any of these SLABS, PLANS; BAD is ahead of it", """
            SLAB 0 "t3"
            PLAN 0 ""
            SLAB 1 "t3"
            PLAN 2 ""
            ROW 0: 7
            order 2 0 = NOTHING
            order 4 0 = NOTHING
            order 8 0 = NOTHING
            order 3 0 = NOTHING
            order 5 0 = NOTHING
            order 15 0 = NOTHING
            order 15 6 = BAD
            order 16 0 = BAD
            places 0 = 7
            order 1 0 = 0
            places 0 = 0
            PLAN 1 ""
            order 3 0 = 0
            order 7 0 = NOTHING
            places 0 = 0 1
            """);
        for (int k = 0; k < 4; k++) {
            orderWithout("SLAB", "PLAN", k);
            orderWithout("PLAN", "SLAB", k);
        }
    }

    /** All SLABS and PLANS are there, but for one. */
    private static void orderWithout(String kind, String other, int missing) {
        StringBuilder lines = new StringBuilder("ROW 0: 7\n");
        for (int k = 0; k < 4; k++) {
            lines.append(other + " " + k + " \"\"\n");
            lines.append(k == missing ? "" : kind + " " + k + " \"\"\n");
        }
        int bit = 1 << missing;
        for (int set = 1; set <= 15; set++) {
            lines.append((set & bit) == 0 ? "order " + set + " 1 = 0\n" : "order " + set + " 0 = NOTHING\n");
        }
        lines.append("places 0 = 7\n");
        e.run("36 NOTHING: any of these: " + kind + " " + missing, lines.toString());
    }

    private static void both() {
        e.run("37 v or more, and w or less: from TICK 1 to TICK 200", """
            # THE MIDDLE of t4 c20 has a MOST of 200 at first, of more from TICK 2 or 3 on.
            SLAB 0 "t4 c20"
            PLAN 0 "o20:60 o20:60 o20:60 o20:20"
            dish 0 0 = 200
            go 1 = 1
            depth 2 1 = 1 told 200
            go 1 = 2
            depth 2 1 = 1 told 237
            go 197 = 199
            depth 2 1 = 1 told 1986
            go 1 = 200
            depth 2 1 = 1 told 1986
            both 0 0 20 200 2000 = 1 told 200
            both 0 0 20 201 2000 = 2 told 199
            both 0 0 20 237 2000 = 2 told 199
            both 0 0 20 238 2000 = 3 told 198
            both 0 0 20 0 200 = 1 told 1
            both 0 0 20 0 199 = NONE
            both 0 0 20 0 236 = 1 told 1
            both 0 0 20 0 237 = 1 told 2
            both 0 0 20 237 237 = 2 told 1
            both 0 0 20 201 236 = NONE
            """);
        e.run("37 TICK 200 alone; behind it: NONE", """
            SLAB 0 "t18 c5"
            SLAB 1 "t3 c5"
            PLAN 0 "o8:60 o8:60 o8:60 o8:20"
            dish 0 0 = 200
            go 199 = 199
            depth 9 1 = 1 told 382
            go 1 = 200
            depth 9 1 = 1 told 384
            both 0 1 8 384 2000 = 200 told 1
            both 0 1 8 385 2000 = NONE
            both 0 1 8 382 2000 = 199 told 2
            """);
        e.run("37 each by its own SALT", """
            # By TICK 18 the WET SKINS of SLAB 1 keep it below 1000.
            SLAB 0 "t3 s50"
            SLAB 1 "t3 s10"
            both 0 1 30 1000 1000 = 9 told 10
            both 0 1 30 1200 1000 = 11 told 8
            both 1 0 30 1000 1000 = NONE
            both 1 1 30 999 999 = 15 told 4
            """);
        e.run("37 a MOST, whatever it has now", """
            SLAB 0 "t3 c40"
            PLAN 0 "o2:60"
            dish 0 0 = 60
            go 60 = 60
            depth 1 0 = 1 told 212
            both 0 0 2 400 400 = 1 told 200
            both 0 0 2 401 2000 = NONE
            both 0 0 2 0 399 = NONE
            """);
        e.run("37 a SLAB v, another one w", """
            SLAB 0 "t4 c20 f3 s1"
            SLAB 1 "t9 c5"
            both 0 1 20 500 450 = 7 told 22
            both 1 0 20 500 450 = NONE
            both 1 0 20 50 500 = 1 told 6
            both 0 1 20 1999 2000 = NONE
            """);
    }

    private static void bothLimits() {
        e.run("37 q 2 .. 30, v, w 0 .. 2000", KITCHEN + """
            both 0 3 1 0 2000 = BAD
            both 0 3 2 0 2000 = 1
            both 0 3 30 0 2000 = 1
            both 0 3 31 0 2000 = BAD
            both 0 3 20 -1 2000 = BAD
            both 0 3 20 2000 2000 = NONE
            both 0 3 20 2001 2000 = BAD
            both 0 3 20 0 -1 = BAD
            both 0 3 20 0 0 = NONE
            both 0 3 20 0 2001 = BAD
            """);
        e.run("37 SLABS 0 .. 3; BAD is ahead of NOTHING", KITCHEN + """
            both -1 0 20 0 0 = BAD
            both 4 0 20 0 0 = BAD
            both 0 -1 20 0 0 = BAD
            both 0 4 20 0 0 = BAD
            both 1 4 20 0 0 = BAD
            both 1 0 31 0 0 = BAD
            both 0 1 20 2001 0 = BAD
            both 1 0 20 0 -1 = BAD
            both 1 0 20 0 0 = NOTHING
            both 0 1 20 0 0 = NOTHING
            both 1 2 2 2000 2000 = NOTHING
            both 3 3 20 0 200 = 1
            """);
    }

    private static void safe() {
        e.run("38 300 or more together: just 300", """
            SLAB 0 "t3 c1"
            SLAB 1 "t3 c6"
            SLAB 2 "t3 c7"
            safe 0 6 = 43 told 598
            safe 1 9 = 14 told 880
            safe 2 10 = 12 told 960
            """);
        e.run("38 300 or more together: not 299", """
            # 299 are counted by TICK 12, 17, 51.
            SLAB 0 "t3 c6"
            SLAB 1 "t3 c11"
            SLAB 2 "t4 c1"
            safe 0 10 = 13 told 970
            safe 1 8 = 18 told 795
            safe 2 6 = 52 told 596
            """);
        e.run("38 by what it has above 500, by 10 (cut), each TICK by itself; below 500 it counts nothing", """
            # Till TICK 7 it has less than 500, and by TICK 43 just 300 are counted.
            SLAB 0 "t3 c1"
            PLAN 0 "b6:43"
            dish 0 0 = 43
            go 5 = 5
            depth 1 0 = 1 told 413
            go 1 = 6
            depth 1 0 = 1 told 460
            go 1 = 7
            depth 1 0 = 1 told 495
            go 1 = 8
            depth 1 0 = 1 told 521
            go 34 = 42
            depth 1 0 = 1 told 598
            go 1 = 43
            depth 1 0 = 1 told 598
            """);
        e.run("38 TICK 200; not till then", """
            SLAB 0 "t12 c28"
            SLAB 1 "t12 c27"
            SLAB 2 "t3 c40"
            safe 0 6 = 200 told 548
            safe 1 6 = NONE
            safe 2 5 = NONE
            safe 2 2 = NONE
            safe 2 30 = 9 told 997
            """);
        e.run("38 by what it has, not by its MOST; its WARMTH then", """
            # SKINS that are not WET in TICK 1 are above 1000 behind it, so that THE MIDDLE cools from TICK 3 on.
            SLAB 0 "t3 c40 s50"
            PLAN 0 "b30:7"
            dish 0 0 = 7
            go 2 = 2
            depth 1 0 = 1 told 1050
            go 1 = 3
            depth 1 0 = 1 told 1025
            go 4 = 7
            depth 1 0 = 1 told 1002
            depth 1 1 = 1 told 1050
            safe 0 30 = 7 told 1002
            safe 0 29 = 7 told 1001
            """);
        e.run("38 q 2 .. 30; SLABS 0 .. 3; BAD is ahead of NOTHING", KITCHEN + """
            safe 0 1 = BAD
            safe 0 2 = NONE
            safe 0 30 = 9
            safe 0 31 = BAD
            safe -1 6 = BAD
            safe 4 6 = BAD
            safe 1 31 = BAD
            safe 1 1 = BAD
            safe 1 6 = NOTHING
            safe 2 30 = NOTHING
            safe 3 30 = 12
            """);
    }

    /** SLABS 1 and 3 of four DEPTHS, 2 of five; PLANS 0, 3 leave them raw, 1 makes their SKINS PINK. */
    private static void which() {
        e.run("39 a slice, made: by its SALT", """
            SLAB 0 "t7"
            SLAB 1 "t7 s10"
            SLAB 2 "t7 s50"
            PLAN 0 "i30:9 u i30:9"
            ROW 0: 2 2 1 1 1 2 2
            which 0 = 0 told 0
            ROW 0: 2 2 1 0 1 2 2
            which 0 = 10 told 0
            ROW 0: 2 2 2 2 2 2 2
            which 0 = 20 told 0
            """);
        e.run("39 by SLABS, then PLANS; how many places are told otherwise", """
            SLAB 1 "t4 c40"
            SLAB 2 "t5 c40"
            SLAB 3 "t4 c40 f9"
            PLAN 0 ""
            PLAN 1 "b6:1"
            PLAN 3 "r3 d u"
            ROW 0: 0 0 0 0
            which 0 = 10 told 0
            ROW 0: 1 0 0 1
            which 0 = 11 told 0
            ROW 0: 1 0 0 0
            which 0 = 10 told 1
            ROW 0: 1 0 1 1
            which 0 = 11 told 1
            ROW 0: 2 2 2 2
            which 0 = 10 told 4
            ROW 0: 2 2 2 1
            which 0 = 11 told 3
            ROW 0: 0 0 0 0 1
            which 0 = 20 told 1
            SLAB 1 "t5 c40"
            ROW 0: 1 0 0 1
            which 0 = 31 told 0
            """);
        e.run("39 the first and the last pair", """
            SLAB 0 "t3 c0"
            SLAB 3 "t20 c40"
            PLAN 0 ""
            PLAN 3 "b6:1"
            ROW 0: 0 0 0
            which 0 = 0 told 0
            ROW 1: 1 0 0 0 0 0 0 0 0 0 0 0 0 0 0 0 0 0 0 1
            which 1 = 33 told 0
            ROW 1: 2 0 0 0 0 0 0 0 0 0 0 0 0 0 0 0 0 0 0 1
            which 1 = 33 told 1
            """);
        e.run("39 NONE: none has such a size", """
            ROW 0: 0 0 0
            which 0 = NONE
            SLAB 0 "t3"
            which 0 = NONE
            PLAN 2 ""
            which 0 = 2 told 0
            SLAB 0 "t4"
            which 0 = NONE
            ROW 0: 0 0 0 0 0
            which 0 = NONE
            """);
        e.run("39 GREY and PINK of a slice at 499, 500, 649, 650", """
            SLAB 0 "t3 c0"
            SLAB 1 "t3 c29"
            SLAB 2 "t3 c23"
            PLAN 0 "b10:1"
            PLAN 1 "b13:1"
            ROW 0: 1 0 1
            which 0 = 0 told 0
            ROW 0: 2 0 2
            which 0 = 1 told 0
            SLAB 0 "t4"
            PLAN 0 "o28:1"
            PLAN 1 "b9:2"
            ROW 0: 0 0 0
            which 0 = 10 told 0
            SLAB 1 "t4"
            ROW 0: 1 0 1
            which 0 = 21 told 0
            """);
    }

    private static void slices() {
        e.run("39 BAD; NOTHING: the ROW; SIZE: not 3 to 20; UNLIKE: not 0 .. 2", """
            SLAB 0 "t3"
            SLAB 1 "t20"
            PLAN 0 ""
            ROW 0: 0 0
            ROW 1: 0 0 0
            ROW 2: 0 0 0 0 0 0 0 0 0 0 0 0 0 0 0 0 0 0 0 0
            ROW 3: 0 0 0 0 0 0 0 0 0 0 0 0 0 0 0 0 0 0 0 0 0
            row 4 0 = 0
            which 6 = BAD
            which -1 = BAD
            which 5 = NOTHING
            which 4 = SIZE
            which 0 = SIZE
            which 1 = 0 told 0
            which 2 = 10 told 0
            which 3 = SIZE
            row 4 40 = 40
            which 4 = SIZE
            ROW 0: 3 9
            which 0 = SIZE
            ROW 0: 0 0 3
            which 0 = UNLIKE
            ROW 0: 3 0 0
            which 0 = UNLIKE
            ROW 0: -1 0 0
            which 0 = UNLIKE
            ROW 0: 0 -1 2
            which 0 = UNLIKE
            ROW 0: 0 1 2
            which 0 = 0 told 2
            ROW 0: 0 0 0 3
            which 0 = UNLIKE
            """);
        e.run("40 BAD, NOTHING, SIZE, UNLIKE as which(); NOUGHT: none has such a size", """
            SLAB 0 "t3"
            SLAB 1 "t20"
            PLAN 0 ""
            ROW 0: 0 0
            ROW 1: 0 0 0
            ROW 2: 0 0 0 0 0 0 0 0 0 0 0 0 0 0 0 0 0 0 0 0
            ROW 3: 0 0 0 0 0 0 0 0 0 0 0 0 0 0 0 0 0 0 0 0 0
            odds 6 0 = BAD
            odds -1 0 = BAD
            odds 1 4 = BAD
            odds 1 -1 = BAD
            odds 5 4 = BAD
            odds 0 4 = BAD
            odds 5 0 = NOTHING
            odds 0 0 = SIZE
            odds 1 0 = 1
            odds 2 3 = 1
            odds 3 0 = SIZE
            ROW 0: 3 9
            odds 0 0 = SIZE
            ROW 0: 0 0 3
            odds 0 0 = UNLIKE
            ROW 0: -1 0 0
            odds 0 0 = UNLIKE
            ROW 0: 0 0 0 3
            odds 0 0 = UNLIKE
            ROW 0: 0 0 0 2
            odds 0 0 = NOUGHT
            odds 0 4 = BAD
            ROW 0: 2 1 0
            odds 0 0 = 1
            """);
        e.run("40 NOUGHT without SLABS or PLANS", """
            ROW 0: 0 0 0
            odds 0 0 = NOUGHT
            SLAB 0 "t3"
            odds 0 0 = NOUGHT
            PLAN 0 ""
            odds 0 0 = 1
            """);
    }

    private static void odds() {
        e.run("40 the part of such least unlike pairs, in lowest terms", """
            SLAB 0 "t3"
            SLAB 1 "t3"
            SLAB 2 "t3"
            SLAB 3 "t4"
            PLAN 0 ""
            PLAN 1 "d"
            PLAN 3 "u"
            ROW 0: 0 0 0
            odds 0 0 = 9
            upper = 1
            lower = 3
            PLAN 3 "b9:60"
            odds 0 1 = 6
            upper = 1
            lower = 2
            odds 0 3 = 6
            upper = 0
            lower = 1
            odds 0 2 = 6
            upper = 0
            lower = 1
            PLAN 0 "b9:60"
            odds 0 1 = 3
            upper = 1
            lower = 1
            """);
        e.run("40 a fraction that has no lower terms", """
            SLAB 0 "t3 c0"
            SLAB 1 "t3 c40"
            SLAB 3 "t4"
            PLAN 0 ""
            PLAN 1 "b7:1"
            ROW 0: 1 0 1
            odds 0 1 = 1
            upper = 1
            lower = 1
            ROW 0: 1 0 0
            odds 0 0 = 4
            upper = 1
            lower = 2
            ROW 0: 0 0 0
            odds 0 0 = 3
            upper = 2
            lower = 3
            odds 0 1 = 3
            upper = 1
            lower = 3
            """);
        e.run("40 the fraction stays, if odds() is refused", """
            SLAB 0 "t3"
            PLAN 0 ""
            PLAN 1 ""
            ROW 0: 0 0 0
            ROW 1: 0 0 0 0
            odds 0 0 = 2
            upper = 1
            lower = 2
            odds 1 0 = NOUGHT
            odds 0 4 = BAD
            odds 5 0 = NOTHING
            upper = 1
            lower = 2
            """);
    }

    private static void rule() {
        e.run("41 TICKS of a WAY till THE MIDDLE has a MOST of v: 1 each, or 200 each", """
            # 3 .. 20 are off from 1 by 189 together; x times 3 .. 20 from 200 least by 14.
            SLAB 0 "t12 c20"
            rule 0 20 1 0 = 1 told 189
            rule 0 20 1 200 = 1 told 189
            rule 0 10 1 2000 = 14 told 1242
            """);
        e.run("41 200, if it is not till then", """
            # THE MIDDLE of thick ones does not come to 700 at 10 by TICK 200, that of THICK 10 has 714, then 716.
            SLAB 0 "t12 c5"
            rule 0 10 57 714 = 13 told 601
            rule 0 10 57 716 = 13 told 604
            rule 0 10 57 717 = 13 told 606
            rule 0 10 57 718 = 13 told 607
            rule 0 14 60 500 = 8 told 285
            rule 0 30 60 900 = 7 told 221
            """);
        e.run("41 q 10 .. 30, t 1 .. 60, v 0 .. 2000", KITCHEN + """
            rule 0 9 1 0 = BAD
            rule 0 10 1 0 = 1
            rule 0 30 1 0 = 1
            rule 0 31 1 0 = BAD
            rule 0 20 0 0 = BAD
            rule 0 20 60 0 = 1
            rule 0 20 61 0 = BAD
            rule 0 20 1 -1 = BAD
            rule 0 20 1 2000 = 14
            rule 0 20 1 2001 = BAD
            """);
        e.run("41 SLABS 0 .. 3; BAD is ahead of NOTHING", KITCHEN + """
            rule -1 20 1 0 = BAD
            rule 4 20 1 0 = BAD
            rule 1 31 1 0 = BAD
            rule 1 20 61 0 = BAD
            rule 1 20 1 2001 = BAD
            rule 1 20 1 0 = NOTHING
            rule 2 10 60 2000 = NOTHING
            rule 3 20 1 0 = 1
            """);
    }
}
