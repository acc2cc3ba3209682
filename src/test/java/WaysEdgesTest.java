/** The boundary cases of WAYS, and of promises 27 to 34. */
public final class WaysEdgesTest {
    /** SLABS 0, 3, PLANS 0, 3 are there. */
    private static final String KITCHEN = """
        SLAB 0 "t3 c5"
        SLAB 3 "t4 c20 s3 f5"
        PLAN 0 "d i28:9 u i28:9"
        PLAN 3 ""
        """;
    private static final Edges e = new Edges("WaysEdgesTest");

    public static void main(String[] args) {
        turnedWays();
        wayAndOftenAndTurnsLimits();
        way();
        often();
        turns();
        most();
        mostLimits();
        off();
        offLimits();
        rest();
        salt();
        thick();
        e.end();
    }

    private static void turnedWays() {
        e.run("3 turned ahead of each TICK whose number is above 0 and a multiple of t", """
            # Turned for its last TICK alone, SKIN 1 is PINK: 553 here.
            SLAB 0 "t20 c5"
            way 0 20 5 5 = 0 told 0
            way 0 20 6 5 = 0 told 2
            way 0 20 60 60 = 0 told 1
            way 0 20 61 60 = 0 told 2
            way 0 20 1 1 = 0 told 1
            way 0 20 2 1 = 0 told 2
            way 0 20 3 1 = 0 told 1
            way 0 20 2 2 = 0 told 0
            way 0 20 3 2 = 0 told 1
            """);
        e.run("3 as a DISH that is turned so", """
            SLAB 0 "t20 c5"
            PLAN 0 "i20:5 u i20:1"
            PLAN 1 "i20:2 u i20:2 u i20:2 u i20:1"
            dish 0 0 = 6
            go 6 = 6
            depth 19 1 = 1 told 553
            just 500 649 = 2
            way 0 20 6 5 = 0 told 2
            dish 0 1 = 7
            go 7 = 7
            just 500 649 = 0
            way 0 20 7 2 = 0 told 0
            """);
        e.run("3 each multiple of t", """
            SLAB 0 "t3 c5 f9"
            PLAN 0 "i30:10 u i30:10 u i30:10 u i30:10"
            dish 0 0 = 40
            go 40 = 40
            skins 2 = 198 219
            way 0 30 40 10 = 198 told 0
            PLAN 1 "i30:20 u i30:20"
            dish 0 1 = 40
            go 40 = 40
            skins 2 = 183 214
            way 0 30 40 20 = 183 told 0
            """);
        e.run("3 the DISH stays as it is; a WAY begins by the SLAB", KITCHEN + """
            dish 0 0 = 18
            go 7 = 7
            way 0 30 20 5 = 23 told 0
            often 0 30 20 5 = 100
            turns 0 20 9 = 1
            off 0 30 5 600 = 5
            go 1 = 8
            way 0 30 20 5 = 23 told 0
            """);
    }

    private static void wayAndOftenAndTurnsLimits() {
        e.run("3, 27 q 10 .. 30, n 1 .. 120, t 1 .. 60", KITCHEN + """
            way 0 9 5 5 = BAD
            way 0 10 5 5 = 0
            way 0 30 5 5 = 0
            way 0 31 5 5 = BAD
            way 0 20 0 5 = BAD
            way 0 20 1 5 = 0
            way 0 20 120 5 = 144
            way 0 20 121 5 = BAD
            way 0 20 5 0 = BAD
            way 0 20 5 1 = 0
            way 0 20 5 60 = 0
            way 0 20 5 61 = BAD
            way 0 20 -2147483648 1 = BAD
            way 0 20 1 2147483647 = BAD
            """);
        e.run("27 SLABS 0 .. 3; BAD is ahead of NOTHING", KITCHEN + """
            way -1 20 5 5 = BAD
            way 4 20 5 5 = BAD
            way 1 9 5 5 = BAD
            way 1 20 121 5 = BAD
            way 1 20 5 0 = BAD
            way 1 20 5 5 = NOTHING
            way 2 10 120 60 = NOTHING
            way 3 20 5 5 = 0
            """);
        e.run("28 q 10 .. 30, n 1 .. 120, t 1 .. 60", KITCHEN + """
            often 0 9 5 5 = BAD
            often 0 10 5 5 = 101
            often 0 30 5 5 = 101
            often 0 31 5 5 = BAD
            often 0 20 0 5 = BAD
            often 0 20 1 5 = 100
            often 0 20 120 5 = 100
            often 0 20 121 5 = BAD
            often 0 20 5 0 = BAD
            often 0 20 5 1 = 100
            often 0 20 5 60 = 99
            often 0 20 5 61 = BAD
            """);
        e.run("28 SLABS 0 .. 3; BAD is ahead of NOTHING", KITCHEN + """
            often -1 20 5 5 = BAD
            often 4 20 5 5 = BAD
            often 1 20 5 61 = BAD
            often 1 31 5 5 = BAD
            often 2 20 0 5 = BAD
            often 1 20 5 5 = NOTHING
            often 2 10 120 60 = NOTHING
            often 3 20 5 5 = 100
            """);
        e.run("29 q 10 .. 30, n 1 .. 120", KITCHEN + """
            turns 0 9 5 = BAD
            turns 0 10 5 = 4
            turns 0 30 5 = 4
            turns 0 31 5 = BAD
            turns 0 20 0 = BAD
            turns 0 20 1 = 1
            turns 0 20 120 = 1
            turns 0 20 121 = BAD
            turns -1 20 5 = BAD
            turns 4 20 5 = BAD
            turns 1 31 5 = BAD
            turns 1 20 121 = BAD
            turns 1 20 5 = NOTHING
            turns 3 20 5 = 1
            """);
    }

    private static void way() {
        e.run("27 JUST SO from 500 to 649: 499, 500", """
            SLAB 0 "t3 c10"
            SLAB 1 "t3 c35"
            SLAB 2 "t3 c0"
            PLAN 0 "i30:1 u i30:1 u i30:1"
            PLAN 1 "i28:2"
            dish 0 0 = 3
            go 3 = 3
            depths 1 = 1000 499 828
            way 0 30 3 1 = 0 told 0
            dish 1 1 = 2
            go 2 = 2
            depths 1 = 1000 500 350
            way 1 28 2 60 = 0 told 1
            way 2 20 1 60 = 0 told 1
            """);
        e.run("27 JUST SO from 500 to 649: 649, 650", """
            SLAB 0 "t3 c28"
            SLAB 1 "t3 c38"
            SLAB 2 "t3 c0"
            PLAN 0 "i30:1 u i30:1 u i30:1"
            PLAN 1 "i24:1 u i24:1 u i24:1"
            dish 0 0 = 3
            go 3 = 3
            depths 1 = 1000 649 957
            way 0 30 3 1 = 0 told 1
            dish 1 1 = 3
            go 3 = 3
            depths 1 = 1000 650 878
            way 1 24 3 1 = 0 told 0
            way 2 26 1 60 = 0 told 0
            """);
        e.run("2, 27 CRUST is the lesser BROWN of both SKINS", """
            SLAB 0 "t3 c5"
            PLAN 0 "i30:20 u i30:10"
            PLAN 1 "i30:20 u i30:20"
            dish 0 0 = 30
            go 30 = 30
            skins 2 = 98 70
            way 0 30 30 20 = 70
            dish 0 1 = 40
            go 40 = 40
            skins 2 = 115 176
            way 0 30 40 20 = 115
            way 0 30 20 20 = 0
            """);
    }

    private static void often() {
        e.run("28 n by 2, cut up", """
            # Cut down, these would be 100, 100, 99.
            SLAB 0 "t3 c0"
            SLAB 1 "t3 c10"
            often 0 14 3 1 = 99 told 16
            often 0 14 7 1 = 101 told 35
            often 1 14 5 1 = 101 told 23
            """);
        e.run("28 100, if as many; n by 2 is t", """
            SLAB 0 "t3 c5"
            often 0 20 1 1 = 100 told 0
            often 0 20 1 60 = 100 told 0
            often 0 20 2 1 = 100 told 0
            often 0 20 2 2 = 98 told 0
            often 0 30 120 60 = 100 told 0
            often 0 30 119 60 = 100 told 0
            """);
        e.run("28 as two WAYS tell", """
            SLAB 0 "t6 c20"
            way 0 26 24 2 = 4 told 0
            way 0 26 24 12 = 12 told 0
            often 0 26 24 2 = 100
            way 0 18 7 3 = 0 told 0
            way 0 18 7 4 = 0 told 1
            often 0 18 7 3 = 99
            """);
        e.run("28 fewer: so many less than 100; THE MIDDLE's MOST is less: below 0", """
            SLAB 0 "t8 c10 f2 s5"
            often 0 26 24 2 = 100 told 45
            often 0 26 24 6 = 101 told -13
            SLAB 1 "t3 c0"
            often 1 26 5 1 = 99 told 98
            """);
    }

    private static void turns() {
        e.run("29 of alike ones the least", """
            # Of one TICK all are alike; of six TICKS here 2 to 60 are.
            SLAB 0 "t3 c0"
            turns 0 10 1 = 1 told 0
            turns 0 10 6 = 2 told 1
            way 0 10 6 1 = 0 told 0
            way 0 10 6 2 = 0 told 1
            way 0 10 6 3 = 0 told 1
            turns 0 10 4 = 4 told 1
            turns 0 18 6 = 5 told 2
            """);
        e.run("29 t 1 .. 60: the last one", """
            SLAB 0 "t3 c0"
            SLAB 1 "t20 c0"
            turns 0 10 60 = 60 told 1
            turns 0 10 59 = 59 told 1
            # Not turned at all, one DEPTH would be PINK.
            turns 0 10 61 = 1 told 0
            turns 1 30 120 = 60 told 6
            way 1 30 120 60 = 481 told 6
            way 1 30 120 59 = 486 told 5
            """);
        e.run("29 t 1 .. 60: the first one", """
            SLAB 0 "t3 c0"
            turns 0 10 10 = 1 told 3
            way 0 10 10 1 = 0 told 3
            way 0 10 10 2 = 0 told 2
            way 0 10 10 10 = 0 told 0
            """);
    }

    private static void most() {
        e.run("30 q 14, 16, .. 30, n 4, 8, .. 80, t 1, 2, 4, 8, 40: the first and the last of each", """
            SLAB 0 "t3 c0 f0"
            SLAB 1 "t8 c0 f0"
            SLAB 2 "t9 c30 f0"
            most 0 500 649 0 = 140402 told 2
            most 0 0 4000 0 = 140401 told 3
            most 1 2000 4000 0 = 308001 told 8
            most 2 2000 4000 0 = 308040 told 5
            """);
        e.run("30 each t", """
            SLAB 0 "t18 c0 f0"
            SLAB 1 "t17 c10 f0"
            SLAB 2 "t3 c40 f9"
            most 0 500 649 0 = 308004 told 6
            most 1 700 900 0 = 308002 told 6
            most 2 500 649 10 = 166008 told 0
            way 0 30 80 4 = 216 told 6
            """);
        e.run("30 CRUST v or more: just v, and one more", """
            SLAB 0 "t3 c0"
            most 0 0 4000 0 = 140401 told 3
            most 0 0 4000 1 = 183604 told 3
            way 0 18 36 4 = 1
            most 0 0 4000 2 = 184004 told 3
            way 0 18 40 4 = 2
            most 0 0 4000 3 = 184404 told 3
            """);
        e.run("30 of alike ones by q, then n, then t", """
            # All DEPTHS are JUST SO, then none: the least q by which there is such a CRUST, of that the least n, the least t.
            SLAB 0 "t3 c0"
            most 0 0 4000 10 = 186001 told 3
            way 0 18 60 1 = 10
            way 0 18 60 2 = 9
            way 0 18 60 4 = 10
            most 0 4000 4000 10 = 186001 told 0
            most 0 4000 4000 0 = 140401 told 0
            """);
        e.run("30 from a to b: a or more, b or less", """
            SLAB 0 "t3 c0"
            PLAN 0 "i14:1 u i14:1 u i14:1 u i14:1"
            dish 0 0 = 4
            go 4 = 4
            depths 1 = 499 293 539
            most 0 293 539 0 = 140401 told 3
            most 0 294 539 0 = 140401 told 2
            most 0 293 538 0 = 140401 told 2
            most 0 293 499 0 = 140401 told 2
            most 0 294 499 0 = 140401 told 1
            most 0 293 498 0 = 140401 told 1
            """);
        e.run("30 there always is a WAY of a CRUST of 99", """
            SLAB 0 "t20 c0 s10 f0"
            way 0 30 80 40 = 249
            most 0 0 4000 99 = 267640 told 20
            """);
    }

    private static void mostLimits() {
        e.run("30 v 0 .. 99; a, b as of just()", KITCHEN + """
            most 0 500 649 -1 = BAD
            most 0 500 649 0 = 140401
            most 0 500 649 99 = 208001
            most 0 500 649 100 = BAD
            most 0 -1 649 0 = BAD
            most 0 0 4001 0 = BAD
            most 0 4001 4001 0 = BAD
            most 0 -1 -1 0 = BAD
            most 0 5 4 0 = BAD
            most 0 4 4 0 = 140401
            most 0 4000 4000 0 = 140401
            most 0 0 4000 0 = 140401
            """);
        e.run("30 BAD is ahead of NOTHING", KITCHEN + """
            most -1 0 4000 0 = BAD
            most 4 0 4000 0 = BAD
            most 1 0 4000 100 = BAD
            most 1 5 4 0 = BAD
            most 1 0 4000 0 = NOTHING
            most 2 0 4000 99 = NOTHING
            most 3 0 4000 0 = 140401
            """);
    }

    private static void off() {
        e.run("31 of alike ones the least n: one is below w, one above it", """
            SLAB 0 "t3 c5"
            off 0 10 1 235 = 2 told 29
            off 0 10 1 206 = 2 told 0
            off 0 10 1 264 = 3 told 0
            off 0 10 1 236 = 3 told 28
            off 0 24 60 1801 = 73 told 1
            """);
        e.run("31 n 1 .. 120: the first and the last", """
            SLAB 0 "t3 c5"
            SLAB 1 "t20 c0"
            off 0 10 1 0 = 1 told 169
            off 1 30 1 0 = 1 told 0
            off 1 30 1 2000 = 120 told 1054
            off 1 10 60 2000 = 120 told 1750
            """);
        e.run("31 in 30 TICKS of REST behind it, and no more", """
            # It still rises then.
            SLAB 0 "t6 c5"
            PLAN 0 "i10:1 r31"
            dish 0 0 = 32
            go 30 = 30
            depth 3 0 = 1 told 114
            go 1 = 31
            depth 3 0 = 1 told 115
            off 0 10 1 115 = 1 told 0
            off 0 10 1 114 = 1 told 1
            off 0 10 1 0 = 1 told 115
            go 1 = 32
            depth 3 0 = 1 told 116
            """);
        e.run("31 that it has then", """
            # Behind these it only falls.
            SLAB 0 "t3 c5"
            SLAB 1 "t4 c20"
            off 0 10 1 848 = 47 told 0
            off 0 10 1 2000 = 47 told 1152
            off 1 18 4 2000 = 120 told 479
            """);
    }

    private static void offLimits() {
        e.run("31 q 10 .. 30, t 1 .. 60, w 0 .. 2000", KITCHEN + """
            off 0 9 5 500 = BAD
            off 0 10 5 500 = 9
            off 0 30 5 500 = 3
            off 0 31 5 500 = BAD
            off 0 20 0 500 = BAD
            off 0 20 1 500 = 3
            off 0 20 60 500 = 4
            off 0 20 61 500 = BAD
            off 0 20 5 -1 = BAD
            off 0 20 5 0 = 1
            off 0 20 5 2000 = 92
            off 0 20 5 2001 = BAD
            """);
        e.run("31 BAD is ahead of NOTHING", KITCHEN + """
            off -1 20 5 500 = BAD
            off 4 20 5 500 = BAD
            off 1 20 5 2001 = BAD
            off 1 31 5 500 = BAD
            off 1 20 61 500 = BAD
            off 1 20 5 500 = NOTHING
            off 2 20 5 0 = NOTHING
            off 3 20 5 500 = 5
            """);
    }

    private static void rest() {
        e.run("32 0 .. 30: 0, though some is lost", """
            SLAB 0 "t14 c5"
            PLAN 0 "o30:40"
            rest 0 0 = 0 told 56
            dish 0 0 = 40
            go 40 = 40
            cut 1 = 56 told 62
            cut 30 = 56 told 66
            """);
        e.run("32 0 .. 30: 30, and it would be less behind 31", """
            SLAB 0 "t6 c40"
            PLAN 0 "o20:20"
            rest 0 0 = 30 told 8
            dish 0 0 = 20
            go 20 = 20
            cut 29 = 86 told 10
            cut 30 = 86 told 8
            cut 31 = 86 told 6
            """);
        e.run("32 of alike ones the least", """
            SLAB 0 "t3 c0"
            PLAN 0 "b30:5"
            PLAN 1 "o30:40"
            PLAN 2 ""
            rest 0 0 = 29 told 2
            dish 0 0 = 5
            go 5 = 5
            cut 28 = 71 told 6
            cut 29 = 71 told 2
            cut 30 = 71 told 2
            rest 0 1 = 0 told 0
            rest 0 2 = 0 told 0
            """);
        e.run("32 one within, more is lost ahead of it and behind it", """
            SLAB 0 "t10 c5"
            PLAN 0 "d i28:9 u i28:9"
            rest 0 0 = 8 told 37
            dish 0 0 = 18
            go 18 = 18
            cut 7 = 61 told 42
            cut 8 = 61 told 37
            cut 9 = 61 told 39
            """);
        e.run("32 SLABS, PLANS 0 .. 3; BAD is ahead of NOTHING", KITCHEN + """
            rest -1 0 = BAD
            rest 4 0 = BAD
            rest 0 -1 = BAD
            rest 0 4 = BAD
            rest 1 4 = BAD
            rest 4 1 = BAD
            rest 1 0 = NOTHING
            rest 0 1 = NOTHING
            rest 1 1 = NOTHING
            rest 3 3 = 0
            rest 0 3 = 0
            rest 3 0 = 4
            """);
    }

    private static void salt() {
        e.run("33 SALT 0 .. 60: of alike ones the least", """
            # Dry at once, WET does not matter; of 50 and more it is 0 at first.
            SLAB 0 "t3 c5 s33"
            PLAN 0 "d i30:10 u i30:10"
            PLAN 1 "i30:12 u i30:12"
            PLAN 2 "i26:14 u i26:14"
            PLAN 3 "i28:9 u i28:9"
            salt 0 0 = 0 told 30
            salt 0 1 = 50 told 50
            salt 0 2 = 49 told 30
            salt 0 3 = 48 told 14
            """);
        e.run("33 just that SALT: one less is less CRUST, one more is not more", """
            SLAB 0 "t3 c5 s49"
            SLAB 1 "t3 c5 s50"
            SLAB 2 "t3 c5 s60"
            PLAN 0 "i30:12 u i30:12"
            dish 0 0 = 24
            go 24 = 24
            skins 2 = 45 85
            dish 1 0 = 24
            go 24 = 24
            skins 2 = 50 95
            dish 2 0 = 24
            go 24 = 24
            skins 2 = 50 95
            """);
        e.run("33 no CRUST at all; else as a SLAB", """
            SLAB 0 "t3 c5 s60"
            SLAB 1 "t4 c20 s1 f5"
            PLAN 0 ""
            PLAN 1 "i28:9 u i28:9"
            salt 0 0 = 0 told 0
            salt 1 1 = 50 told 26
            about 1 2 = 1 told 1
            """);
        e.run("33 else as a SLAB: its THICK", """
            SLAB 0 "t3"
            SLAB 1 "t4"
            SLAB 2 "t12"
            PLAN 0 "i28:20 u i28:20"
            salt 0 0 = 50 told 119
            salt 1 0 = 48 told 85
            salt 2 0 = 48 told 77
            """);
        e.run("33 made to its end: a DRY behind all TICKS does not brown", """
            SLAB 0 "t3 c5 s33"
            PLAN 0 "i30:12 u i30:12 d u"
            salt 0 0 = 50 told 50
            """);
        e.run("33 SLABS, PLANS 0 .. 3; BAD is ahead of NOTHING", KITCHEN + """
            salt -1 0 = BAD
            salt 4 0 = BAD
            salt 0 -1 = BAD
            salt 0 4 = BAD
            salt 1 4 = BAD
            salt 4 1 = BAD
            salt 1 0 = NOTHING
            salt 0 1 = NOTHING
            salt 3 3 = 0
            salt 3 0 = 0
            """);
    }

    private static void thick() {
        e.run("34 THICK 3 .. 20: THE MIDDLE's MOST a or more, b or less; the least (NONE)", """
            # 996, 957, .. 201, 200 of THICK 3, 4, .. 19, 20.
            SLAB 0 "t10 c20 s3 f5"
            PLAN 0 "b10:20"
            thick 0 0 0 4000 = 18 told 3
            thick 0 0 996 996 = 1 told 3
            thick 0 0 997 4000 = 0 told NONE
            thick 0 0 958 995 = 0 told NONE
            thick 0 0 957 996 = 2 told 3
            thick 0 0 957 995 = 1 told 4
            thick 0 0 200 200 = 1 told 20
            thick 0 0 200 201 = 2 told 19
            thick 0 0 0 199 = 0 told NONE
            thick 0 0 201 996 = 17 told 3
            """);
        e.run("34 else as a SLAB", """
            SLAB 0 "t3 c40"
            SLAB 1 "t20 c40"
            PLAN 0 "b2:10"
            thick 0 0 400 400 = 18 told 3
            thick 1 0 400 400 = 18 told 3
            about 1 0 = 1 told 20
            """);
        e.run("34 else as a SLAB: its SALT", """
            SLAB 0 "t10"
            SLAB 1 "t10 s10"
            SLAB 2 "t10 s33"
            SLAB 3 "t10 s50"
            PLAN 0 "i30:9 u i30:9"
            thick 0 0 500 649 = 1 told 7
            thick 1 0 500 649 = 0 told NONE
            thick 2 0 500 649 = 1 told 7
            thick 3 0 500 649 = 0 told NONE
            thick 0 0 900 4000 = 3 told 3
            thick 1 0 900 4000 = 2 told 3
            thick 2 0 900 4000 = 3 told 3
            thick 3 0 900 4000 = 4 told 3
            """);
        e.run("34 a, b as of just()", KITCHEN + """
            thick 0 0 -1 5 = BAD
            thick 0 0 0 4001 = BAD
            thick 0 0 4001 4001 = BAD
            thick 0 0 -1 -1 = BAD
            thick 0 0 5 4 = BAD
            thick 0 0 4 4 = 0 told NONE
            thick 0 0 4000 4000 = 0 told NONE
            thick 0 0 0 4000 = 18 told 3
            """);
        e.run("34 BAD is ahead of NOTHING", KITCHEN + """
            thick -1 0 0 1 = BAD
            thick 4 0 0 1 = BAD
            thick 0 -1 0 1 = BAD
            thick 0 4 0 1 = BAD
            thick 1 1 2 1 = BAD
            thick 1 4 0 1 = BAD
            thick 1 0 0 1 = NOTHING
            thick 0 1 0 1 = NOTHING
            thick 3 3 200 200 = 18 told 3
            """);
    }
}
