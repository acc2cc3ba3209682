/** The boundary cases of promises 15 to 26: dishes. */
public final class DishEdgesTest {
    /** SLABS 0, 1, PLANS 0, 1 are there, and no DISH. */
    private static final String KITCHEN = """
        SLAB 0 "t6 c5 f4"
        SLAB 1 "t20 c40 s60"
        PLAN 0 "d i23:8 u i23:8 u r10"
        PLAN 1 ""
        """;
    private static final Edges e = new Edges("DishEdgesTest");

    public static void main(String[] args) {
        dish();
        go();
        depthAndSkin();
        mark();
        keepAndOn();
        just();
        slice();
        cut();
        rise();
        wire();
        e.end();
    }

    private static void dish() {
        e.run("15 all TICKS of its PLAN's STEPS", """
            SLAB 0 ""
            PLAN 0 ""
            PLAN 1 "i20:60 u o20:60 d b20:60 r20"
            PLAN 2 "u d u"
            PLAN 3 "r1"
            dish 0 0 = 0
            dish 0 1 = 200
            dish 0 2 = 0
            dish 0 3 = 1
            count 2 = 0
            """);
        e.run("15 BAD, NOTHING: either", """
            SLAB 0 ""
            SLAB 3 ""
            PLAN 0 ""
            PLAN 3 "r5"
            dish 4 0 = BAD
            dish -1 0 = BAD
            dish 0 4 = BAD
            dish 0 -1 = BAD
            dish 4 1 = BAD
            dish 1 4 = BAD
            dish 1 0 = NOTHING
            dish 0 1 = NOTHING
            dish 1 1 = NOTHING
            go 0 = STATE
            dish 0 0 = 0
            dish 3 3 = 5
            dish 2 0 = NOTHING
            go 0 = 0
            """);
        e.run("15 begun anew: from TICK 0 on", """
            SLAB 0 "t3 s5"
            PLAN 0 "u d i30:20"
            dish 0 0 = 20
            go 20 = 20
            dish 0 0 = 20
            count 2 = 0
            depths 0 = 50 50 50
            depths 1 = 50 50 50
            depths 2 = 100 100 100
            skins 0 = 5 5
            skins 1 = 30 30
            skins 2 = 0 0
            skins 3 = 1 0
            """);
        e.run("15 begun anew within a STEP: its first STEP is whole again", """
            SLAB 0 "t3"
            PLAN 0 "i20:5 u i20:5 r3"
            dish 0 0 = 13
            go 3 = 3
            dish 0 0 = 13
            go 5 = 5
            skins 3 = 1 0
            go 1 = 6
            skins 3 = 0 1
            go 4 = 10
            mark 0 4 = UNLIKE
            go 1 = 11
            dish 0 0 = 13
            go 5 = 5
            skins 3 = 1 0
            go 1 = 6
            skins 3 = 0 1
            """);
        e.run("1 by a SLAB and a PLAN as they were when it was begun", """
            SLAB 0 "t3 c5 f8"
            PLAN 0 "d i30:4"
            dish 0 0 = 4
            SLAB 0 "t9 c9 f0 s9"
            PLAN 0 "b2:9"
            go 4 = 4
            skins 2 = 3 0
            depth 3 0 = BEYOND
            depth 0 2 = 1 told 75
            mark 0 5 = UNLIKE
            go 1 = 5
            skins 0 = 4 4
            """);
        e.run("1 a refused dish() leaves the DISH", """
            SLAB 0 "t3"
            PLAN 0 "i20:5"
            dish 0 0 = 5
            go 2 = 2
            dish 1 0 = NOTHING
            dish 0 4 = BAD
            go 1 = 3
            """);
    }

    private static void go() {
        e.run("16 n 0 .. 200", KITCHEN + """
            dish 0 0 = 26
            go -1 = BAD
            go -2147483648 = BAD
            go 201 = BAD
            go 2147483647 = BAD
            go 0 = 0
            go 1 = 1
            go 199 = 200
            dish 0 0 = 26
            go 200 = 200
            """);
        e.run("16 SPENT: behind TICK 300", KITCHEN + """
            dish 0 0 = 26
            go 100 = 100
            go 200 = 300
            go 0 = 300
            go 1 = SPENT
            go 200 = SPENT
            go 201 = BAD
            go -1 = BAD
            count 2 = 300
            """);
        e.run("16 to TICK 300 at most", KITCHEN + """
            dish 0 0 = 26
            go 101 = 101
            go 200 = SPENT
            go 199 = 300
            dish 0 0 = 26
            go 200 = 200
            go 99 = 299
            go 2 = SPENT
            go 0 = 299
            go 1 = 300
            go 2 = SPENT
            """);
        e.run("16 BAD is ahead of STATE", KITCHEN + """
            go 201 = BAD
            go -1 = BAD
            go 0 = STATE
            go 200 = STATE
            """);
    }

    private static void depthAndSkin() {
        e.run("17 BAD: not 0 .. 19; BEYOND: no such DEPTH", KITCHEN + """
            dish 0 1 = 0
            depth -1 0 = BAD
            depth 0 0 = 1 told 50
            depth 5 0 = 1 told 50
            depth 6 0 = BEYOND
            depth 19 2 = BEYOND
            depth 20 0 = BAD
            depth 2147483647 0 = BAD
            depth -2147483648 0 = BAD
            dish 1 1 = 0
            depth 19 0 = 1 told 400
            depth 20 0 = BAD
            """);
        e.run("17 what: 0 .. 2", KITCHEN + """
            dish 0 1 = 0
            depth 0 -1 = BAD
            depth 0 0 = 1 told 50
            depth 0 1 = 1 told 50
            depth 0 2 = 1 told 100
            depth 0 3 = BAD
            depth 6 3 = BAD
            """);
        e.run("17 BAD, STATE, BEYOND in this order", KITCHEN + """
            depth 20 0 = BAD
            depth -1 0 = BAD
            depth 0 3 = BAD
            depth 0 0 = STATE
            depth 19 0 = STATE
            """);
        e.run("18 SKINS 0, 1; what: 0 .. 3", KITCHEN + """
            dish 0 1 = 0
            skin -1 0 = BAD
            skin 2 0 = BAD
            skin 0 -1 = BAD
            skin 0 4 = BAD
            skin 1 4 = BAD
            skin 0 0 = 1 told 1
            skin 1 0 = 1 told 1
            skin 0 3 = 1 told 1
            skin 1 3 = 1 told 0
            """);
        e.run("18 BAD is ahead of STATE", KITCHEN + """
            skin 2 0 = BAD
            skin 0 4 = BAD
            skin 0 0 = STATE
            skin 1 3 = STATE
            """);
    }

    private static void mark() {
        e.run("19 a SALTED one is a WET one", """
            SLAB 0 "t3 s7"
            PLAN 0 ""
            dish 0 0 = 0
            mark 0 1 = 34
            mark 1 1 = 34
            mark 0 5 = 7
            mark 0 2 = UNLIKE
            mark 0 3 = UNLIKE
            mark 0 4 = UNLIKE
            mark 0 6 = UNLIKE
            """);
        e.run("19 a WET one is no SALTED one", """
            SLAB 0 "t3"
            PLAN 0 ""
            dish 0 0 = 0
            mark 1 1 = 20
            mark 1 5 = UNLIKE
            mark 1 2 = UNLIKE
            mark 1 3 = UNLIKE
            mark 1 4 = UNLIKE
            mark 1 6 = UNLIKE
            """);
        e.run("19 a SKIN is none of them", """
            SLAB 0 "t3 s60"
            PLAN 0 ""
            dish 0 0 = 0
            mark 0 1 = UNLIKE
            mark 0 2 = UNLIKE
            mark 0 3 = UNLIKE
            mark 0 4 = UNLIKE
            mark 0 5 = UNLIKE
            mark 0 6 = UNLIKE
            """);
        e.run("19 a RESTED one is a COOLING one; TICKS of REST on end till now", """
            SLAB 0 "t3 c20 s60"
            PLAN 0 "r2 u r1 i2:1 r3"
            dish 0 0 = 7
            go 1 = 1
            mark 0 4 = 1
            go 1 = 2
            mark 0 4 = 2
            go 1 = 3
            mark 1 4 = 3
            mark 1 2 = 200
            mark 1 1 = UNLIKE
            go 1 = 4
            mark 1 4 = UNLIKE
            mark 0 2 = 200
            mark 0 4 = UNLIKE
            go 1 = 5
            mark 0 4 = 1
            go 100 = 105
            mark 0 4 = 101
            dish 0 0 = 7
            go 1 = 1
            mark 0 4 = 1
            """);
        e.run("19 a COOLING one of either SKIN: its WARMTH", """
            SLAB 0 "t4 c40 s60"
            PLAN 0 "i2:1 u i2:1"
            dish 0 0 = 2
            go 1 = 1
            mark 1 2 = 388
            mark 0 2 = UNLIKE
            go 1 = 2
            mark 0 2 = 353
            mark 1 2 = UNLIKE
            """);
        e.run("19 BAD: also KIND 0; STATE; UNLIKE", KITCHEN + """
            mark 0 0 = BAD
            mark 0 -1 = BAD
            mark 0 7 = BAD
            mark 2 1 = BAD
            mark -1 1 = BAD
            mark 0 1 = STATE
            mark 1 6 = STATE
            dish 0 1 = 0
            mark 0 0 = BAD
            mark 1 0 = BAD
            mark 0 7 = BAD
            mark 2 6 = BAD
            mark 0 6 = UNLIKE
            mark 0 1 = 20
            """);
    }

    private static void keepAndOn() {
        e.run("20 places 0 .. 2; BAD, STATE", KITCHEN + """
            keep 3 = BAD
            keep -1 = BAD
            keep 0 = STATE
            keep 2 = STATE
            dish 0 0 = 26
            go 3 = 3
            keep 3 = BAD
            keep -1 = BAD
            keep 0 = 3
            keep 2 = 3
            count 5 = 2
            keep 2 = 3
            count 5 = 2
            """);
        e.run("21 BAD, NOTHING", KITCHEN + """
            on 3 = BAD
            on -1 = BAD
            on 0 = NOTHING
            on 2 = NOTHING
            dish 0 0 = 26
            go 5 = 5
            keep 1 = 5
            on 0 = NOTHING
            on 2 = NOTHING
            on 3 = BAD
            on 1 = 5
            """);
        e.run("20, 21 as it was, with what is not done yet", """
            SLAB 0 "t3 c20 s60 f8"
            PLAN 0 "i30:2 u i30:2 r2 u d"
            dish 0 0 = 6
            go 2 = 2
            keep 0 = 2
            go 1 = 3
            depths 0 = 967 550 943
            keep 1 = 3
            go 3 = 6
            keep 2 = 6
            mark 1 4 = 2
            SLAB 0 "t9"
            PLAN 0 "b2:9"
            dish 0 0 = 9
            go 9 = 9
            on 0 = 2
            skins 3 = 1 0
            go 1 = 3
            skins 3 = 0 1
            depths 0 = 967 550 943
            on 0 = 2
            count 2 = 2
            on 2 = 6
            mark 1 4 = 2
            go 1 = 7
            mark 1 4 = 3
            skins 3 = 1 0
            """);
        e.run("20, 21 all of it: what it had, its SALT and FAT, which SKIN is down, how far its STEP is", """
            SLAB 0 "t3 c20 s60 f8"
            SLAB 1 "t5 c3"
            PLAN 0 "d i30:5 u i30:5 b6:1 i2:5 d i30:9"
            PLAN 1 "b2:7"
            dish 0 0 = 25
            go 13 = 13
            keep 1 = 13
            depths 0 = 1000 1147 873
            depths 1 = 1737 1524 2077
            depths 2 = 20 43 30
            skins 0 = 5 3
            skins 1 = 28 29
            skins 2 = 13 24
            skins 3 = 0 1
            dish 1 1 = 7
            go 6 = 6
            keep 0 = 6
            on 1 = 13
            depths 0 = 1000 1147 873
            depths 1 = 1737 1524 2077
            depths 2 = 20 43 30
            skins 0 = 5 3
            skins 1 = 28 29
            skins 2 = 13 24
            skins 3 = 0 1
            # Two TICKS of its STEP have gone by, three are left.
            go 3 = 16
            skins 1 = 28 29
            go 1 = 17
            skins 1 = 0 0
            go 8 = 25
            skins 2 = 13 84
            mark 1 3 = 84
            on 0 = 6
            skins 3 = 1 0
            go 1 = 7
            skins 0 = 1 1
            mark 0 5 = UNLIKE
            on 1 = 13
            skins 2 = 13 24
            """);
        e.run("20, 21 SALT", """
            SLAB 0 "t3 s7"
            SLAB 1 "t3"
            PLAN 0 ""
            dish 0 0 = 0
            keep 2 = 0
            dish 1 0 = 0
            keep 1 = 0
            on 2 = 0
            skins 0 = 5 5
            mark 0 5 = 7
            on 1 = 0
            skins 0 = 1 1
            mark 0 5 = UNLIKE
            """);
        e.run("20, 21 the KIND that its SKINS were of by the latest TICK", """
            SLAB 0 "t3"
            PLAN 0 "d i20:3 r5 o10:2"
            dish 0 0 = 10
            keep 2 = 0
            go 2 = 2
            skins 0 = 0 2
            keep 0 = 2
            go 2 = 4
            skins 0 = 4 4
            keep 1 = 4
            go 5 = 9
            skins 0 = 0 0
            on 0 = 2
            skins 0 = 0 2
            on 1 = 4
            skins 0 = 4 4
            mark 0 4 = 1
            go 1 = 5
            mark 1 4 = 2
            on 2 = 0
            skins 0 = 1 1
            """);
        e.run("20 kept as it is: what is done behind it does not change what is kept", """
            SLAB 0 "t3 c0"
            PLAN 0 "i30:3"
            dish 0 0 = 3
            keep 0 = 0
            go 3 = 3
            on 0 = 0
            depths 0 = 0 0 0
            go 1 = 1
            keep 0 = 1
            on 0 = 1
            depths 0 = 750 0 12
            """);
        e.run("21 at TICK 300", KITCHEN + """
            dish 0 0 = 26
            go 200 = 200
            go 100 = 300
            keep 0 = 300
            dish 0 0 = 26
            on 0 = 300
            go 1 = SPENT
            go 0 = 300
            """);
    }

    private static void just() {
        e.run("22 from a to b: a or more, b or less; all JUICE", """
            SLAB 0 "t3 c0"
            PLAN 0 "b13:1"
            dish 0 0 = 1
            go 1 = 1
            depths 1 = 650 0 650
            just 650 650 = 2 told 298
            just 0 650 = 3 told 298
            just 0 649 = 1 told 298
            just 1 650 = 2 told 298
            just 651 4000 = 0 told 298
            just 0 0 = 1 told 298
            just 1 649 = 0 told 298
            """);
        e.run("22 0 .. 4000; a no more than b", KITCHEN + """
            dish 0 1 = 0
            just 0 4000 = 6 told 600
            just -1 4000 = BAD
            just 0 4001 = BAD
            just 4000 4000 = 0
            just 4001 4001 = BAD
            just -1 -1 = BAD
            just 50 50 = 6
            just 51 50 = BAD
            just 50 49 = BAD
            just 2147483647 2147483647 = BAD
            just -2147483648 2147483647 = BAD
            """);
        e.run("22 BAD is ahead of STATE", KITCHEN + """
            just 5 4 = BAD
            just 0 4001 = BAD
            just 0 4000 = STATE
            """);
    }

    private static void slice() {
        e.run("23 the slice comes to a ROW, anew; how many are PINK", """
            SLAB 0 "t3 c0"
            PLAN 0 "b10:1"
            PLAN 1 ""
            SLAB 1 "t20 c40"
            ROW 1: 9 9 9 9 9
            dish 0 0 = 1
            go 1 = 1
            slice 1 = 2
            places 1 = 1 0 1
            slice 5 = 2
            slice 0 = 2
            count 6 = 3
            dish 1 1 = 0
            slice 1 = 0
            places 1 = 0 0 0 0 0 0 0 0 0 0 0 0 0 0 0 0 0 0 0 0
            """);
        e.run("23 by its MOST, whatever it has now", """
            SLAB 0 "t5 c20"
            PLAN 0 "b6:12 r60"
            dish 0 0 = 72
            go 72 = 72
            depths 0 = 297 311 316 311 297
            depths 1 = 552 485 480 485 552
            slice 0 = 2
            places 0 = 1 0 0 0 1
            just 500 649 = 2 told 500
            """);
        e.run("23 BAD is ahead of STATE", KITCHEN + """
            ROW 0: 7
            slice 6 = BAD
            slice -1 = BAD
            slice 0 = STATE
            slice 5 = STATE
            places 0 = 7
            dish 0 1 = 0
            slice 6 = BAD
            slice -1 = BAD
            slice 5 = 0
            """);
    }

    private static void cut() {
        e.run("24 n 0 .. 60; it stays", """
            SLAB 0 "t3 c0"
            PLAN 0 "b13:10"
            dish 0 0 = 10
            go 10 = 10
            cut -1 = BAD
            cut 0 = 57 told 57
            cut 1 = 57 told 48
            cut 2 = 57 told 45
            cut 3 = 57 told 44
            cut 60 = 57 told 0
            cut 61 = BAD
            cut 2147483647 = BAD
            cut -2147483648 = BAD
            """);
        e.run("24 after 60 TICKS as many as there are, not 59", """
            SLAB 0 "t20 c40"
            PLAN 0 "b7:50 b7:50"
            dish 0 0 = 100
            go 100 = 100
            cut 59 = 72 told 20
            cut 60 = 72 told 10
            go 60 = 160
            cut 0 = 10 told 10
            cut 1 = 10 told 0
            """);
        e.run("24 of REST, whatever STEP is next", """
            SLAB 0 "t3 c0"
            PLAN 0 "b13:10 b30:10"
            dish 0 0 = 20
            go 10 = 10
            cut 1 = 57 told 48
            cut 3 = 57 told 44
            """);
        e.run("24 BAD is ahead of STATE", KITCHEN + """
            cut 61 = BAD
            cut -1 = BAD
            cut 0 = STATE
            cut 60 = STATE
            """);
    }

    private static void rise() {
        e.run("25 STATE; 0: it does not rise", KITCHEN + """
            rise = STATE
            dish 1 1 = 0
            rise = 0 told 0
            go 5 = 5
            rise = 0 told 0
            """);
        e.run("25 for 60 TICKS, and no more", """
            SLAB 0 "t20 c0"
            PLAN 0 "i20:60"
            dish 0 0 = 60
            go 30 = 30
            rise = 124 told 60
            go 30 = 60
            rise = 170 told 60
            """);
        e.run("25 after how many it has that first", """
            # It has that from TICK 16 to TICK 20 of REST.
            SLAB 0 "t6 c5 f4"
            PLAN 0 "d i23:8 u i23:8 u r10"
            dish 0 0 = 26
            go 8 = 8
            depth 3 0 = 1 told 165
            rise = 234 told 16
            go 8 = 16
            rise = 168 told 6
            """);
        e.run("24, 25 at TICK 300, too: it stays", """
            SLAB 0 "t20 c40"
            PLAN 0 "b7:50 b7:50 b7:50 b7:50"
            dish 0 0 = 200
            go 200 = 200
            go 99 = 299
            cut 60 = 50 told 30
            go 1 = 300
            cut 0 = 50 told 50
            cut 60 = 50 told 30
            rise = 0 told 0
            go 1 = SPENT
            go 0 = 300
            """);
        e.run("25, 26 by what it has now, whatever its MOST", """
            SLAB 0 "t3 c40"
            PLAN 0 "b2:3 b6:1"
            dish 0 0 = 4
            go 4 = 4
            depths 0 = 442 285 442
            depths 1 = 442 400 442
            rise = 92 told 2
            wire 0 = 285 told 285
            wire 1 = 442 told 442
            """);
        e.run("25 if it RESTS, whatever STEP is next; it stays", """
            SLAB 0 "t6 c5 f4"
            PLAN 0 "d i23:8 u i30:60"
            PLAN 1 "d i23:8"
            dish 0 0 = 68
            go 8 = 8
            rise = 234 told 16
            dish 0 1 = 8
            go 8 = 8
            rise = 234 told 16
            go 15 = 23
            depth 3 0 = 1 told 398
            rise = 1 told 1
            go 1 = 24
            depth 3 0 = 1 told 399
            rise = 0 told 0
            """);
    }

    private static void wire() {
        e.run("26 THE MIDDLE is THICK by 2, cut; the least of both ways, the greatest", """
            SLAB 0 "t3 c0"
            SLAB 1 "t4 c0"
            PLAN 0 "d i30:3"
            dish 0 0 = 3
            go 3 = 3
            depths 0 = 1360 381 73
            wire 0 = 381 told 381
            wire 1 = 73 told 1360
            dish 1 0 = 3
            go 3 = 3
            depths 0 = 1359 375 53 27
            wire 0 = 53 told 53
            wire 1 = 27 told 375
            """);
        e.run("26 within the SLAB", """
            SLAB 0 "t6 c5 f4"
            PLAN 0 "d i30:7"
            dish 0 0 = 7
            go 7 = 7
            depths 0 = 1841 939 399 157 85 86
            wire 2 = 86 told 939
            wire 3 = 86 told 1841
            wire 4 = 86 told 1841
            wire 9 = 86 told 1841
            """);
        e.run("26 the least of both ways, whichever way it is", """
            # The other SKIN is down: as it is without the TURN, the other way round.
            SLAB 0 "t6 c5 f4"
            PLAN 0 "d u i30:7"
            dish 0 0 = 7
            go 7 = 7
            depths 0 = 86 85 157 399 939 1841
            wire 0 = 399 told 399
            wire 1 = 157 told 939
            wire 2 = 85 told 1841
            wire 3 = 86 told 1841
            wire 9 = 86 told 1841
            """);
        e.run("26 within the SLAB: each way by itself", """
            SLAB 0 "t3 c0"
            SLAB 1 "t4 c0"
            PLAN 0 "d i30:3"
            dish 0 0 = 3
            go 3 = 3
            wire 2 = 73 told 1360
            wire 9 = 73 told 1360
            dish 1 0 = 3
            go 3 = 3
            depths 0 = 1359 375 53 27
            wire 1 = 27 told 375
            wire 2 = 27 told 1359
            wire 3 = 27 told 1359
            wire 9 = 27 told 1359
            """);
        e.run("26 d 0 .. 9, all within twenty DEPTHS", """
            SLAB 0 "t20 c0"
            PLAN 0 "d i30:60"
            dish 0 0 = 60
            go 60 = 60
            wire -1 = BAD
            wire 10 = BAD
            wire 2147483647 = BAD
            depth 10 0 = 1 told 125
            wire 0 = 125 told 125
            depth 1 0 = 1 told 2141
            depth 19 0 = 1 told 105
            wire 9 = 105 told 2141
            depth 2 0 = 1 told 1745
            depth 18 0 = 1 told 82
            wire 8 = 82 told 1745
            """);
        e.run("26 BAD is ahead of STATE", KITCHEN + """
            wire 10 = BAD
            wire -1 = BAD
            wire 0 = STATE
            wire 9 = STATE
            """);
    }
}
