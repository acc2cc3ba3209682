/** The boundary cases of DEPTHS, SKINS, TICKS, KINDS, and of what STEPS do when: "Terms" 1, 2. */
public final class TicksEdgesTest {
    private static final Edges e = new Edges("TicksEdgesTest");

    public static void main(String[] args) {
        atFirst();
        stepsDoneThen();
        behindAllSteps();
        warmthWithin();
        warmthFromOutside();
        wetAndBoiling();
        mostAndJuice();
        brown();
        kinds();
        browningKinds();
        restedAndCooling();
        colours();
        loss();
        e.end();
    }

    private static void atFirst() {
        e.run("2 WARMTH at first 10 times COLD, MOST, too; JUICE 100; SKIN 0 is down", """
            SLAB 0 "t3 c0"
            SLAB 1 "t4 c40"
            PLAN 0 ""
            dish 0 0 = 0
            depths 0 = 0 0 0
            depths 1 = 0 0 0
            depths 2 = 100 100 100
            skins 3 = 1 0
            skins 2 = 0 0
            skins 1 = 20 20
            dish 1 0 = 0
            depths 0 = 400 400 400 400
            depths 1 = 400 400 400 400
            depths 2 = 100 100 100 100
            """);
        e.run("2 DEPTHS are 0 .. THICK less 1", """
            SLAB 0 "t3 c7"
            SLAB 1 "t20 c7"
            PLAN 0 ""
            dish 0 0 = 0
            depth 2 0 = 1 told 70
            depth 3 0 = BEYOND
            dish 1 0 = 0
            depth 19 0 = 1 told 70
            depth 20 0 = BAD
            """);
        e.run("2 WET by SALT: 20 and 2 times SALT, if that is 10 or less, else 50 less SALT", """
            PLAN 0 ""
            SLAB 0 "s0"
            dish 0 0 = 0
            skins 1 = 20 20
            SLAB 0 "s1"
            dish 0 0 = 0
            skins 1 = 22 22
            SLAB 0 "s10"
            dish 0 0 = 0
            skins 1 = 40 40
            SLAB 0 "s11"
            dish 0 0 = 0
            skins 1 = 39 39
            """);
        e.run("2 WET by SALT: 0 at least", """
            PLAN 0 ""
            SLAB 0 "s49"
            dish 0 0 = 0
            skins 1 = 1 1
            SLAB 0 "s50"
            dish 0 0 = 0
            skins 1 = 0 0
            SLAB 0 "s51"
            dish 0 0 = 0
            skins 1 = 0 0
            SLAB 0 "s60"
            dish 0 0 = 0
            skins 1 = 0 0
            """);
    }

    private static void stepsDoneThen() {
        e.run("1 behind dish() TURN, DRY are not done yet", """
            SLAB 0 "t3"
            PLAN 0 "u d i20:2"
            dish 0 0 = 2
            skins 3 = 1 0
            skins 1 = 20 20
            go 0 = 0
            skins 3 = 1 0
            skins 1 = 20 20
            go 1 = 1
            skins 3 = 0 1
            skins 1 = 0 0
            """);
        e.run("1 behind go() to the end of a STEP TURN, DRY are not done yet", """
            SLAB 0 "t3"
            PLAN 0 "i20:2 u i20:2 d u i20:2"
            dish 0 0 = 6
            go 1 = 1
            skins 3 = 1 0
            go 1 = 2
            skins 3 = 1 0
            go 0 = 2
            skins 3 = 1 0
            go 1 = 3
            skins 3 = 0 1
            go 1 = 4
            skins 3 = 0 1
            skin 1 1 = 1 told 20
            go 1 = 5
            skins 3 = 1 0
            skins 1 = 0 0
            """);
        e.run("1 they are the first thing of the TICK that comes then: it is on the other SKIN, and dry", """
            SLAB 0 "t3 c0"
            PLAN 0 "u d i30:2"
            dish 0 0 = 2
            go 1 = 1
            depths 0 = 12 0 750
            go 1 = 2
            depths 0 = 20 190 1125
            """);
        e.run("1 one behind the other", """
            SLAB 0 "t3"
            PLAN 0 "u u i20:1 u d u u i20:1 d d u i20:1"
            dish 0 0 = 3
            go 1 = 1
            skins 3 = 1 0
            skins 1 = 20 20
            go 1 = 2
            skins 3 = 0 1
            skins 1 = 0 0
            go 1 = 3
            skins 3 = 1 0
            """);
        e.run("1 as far as STEPS go: at once or one by one", """
            SLAB 0 "t3 c0"
            PLAN 0 "i30:1 u i30:1"
            dish 0 0 = 2
            go 2 = 2
            depths 0 = 529 190 756
            skins 3 = 0 1
            dish 0 0 = 2
            go 1 = 1
            go 1 = 2
            depths 0 = 529 190 756
            """);
        e.run("1 a STEP ends with its last TICK", """
            SLAB 0 "t3 c10"
            PLAN 0 "i11:1 o13:1 b15:1 r1"
            dish 0 0 = 4
            go 1 = 1
            depths 0 = 350 100 106
            skins 1 = 20 20
            go 1 = 2
            depths 0 = 367 164 204
            skins 1 = 20 20
            go 1 = 3
            depths 0 = 883 224 842
            skins 1 = 30 30
            go 1 = 4
            depths 0 = 685 543 656
            """);
    }

    private static void behindAllSteps() {
        e.run("1 behind all STEPS it RESTS", """
            SLAB 0 "t3 c40 s60"
            PLAN 0 "i20:1"
            PLAN 1 ""
            dish 0 0 = 1
            go 1 = 1
            skins 0 = 0 2
            go 1 = 2
            skins 0 = 4 4
            mark 0 4 = 1
            go 10 = 12
            mark 0 4 = 11
            dish 0 1 = 0
            skins 0 = 0 0
            go 1 = 1
            skins 0 = 4 4
            depths 0 = 390 400 390
            """);
        e.run("1 what comes behind all STEPS is done in the TICK that comes then", """
            SLAB 0 "t3"
            PLAN 0 "i20:1 u d"
            dish 0 0 = 1
            go 1 = 1
            skins 3 = 1 0
            skins 1 = 20 20
            go 1 = 2
            skins 3 = 0 1
            skins 1 = 0 0
            go 5 = 7
            skins 3 = 0 1
            """);
        e.run("1 of a PLAN without TICKS, too", """
            SLAB 0 "t3"
            PLAN 0 "u d"
            dish 0 0 = 0
            skins 3 = 1 0
            skins 1 = 20 20
            go 0 = 0
            skins 1 = 20 20
            go 1 = 1
            skins 3 = 0 1
            skins 1 = 0 0
            """);
        e.run("1 to its end is to the last TICK: what comes then at once is done, too", """
            # Dry, the hot SKINS of a wetted SLAB stay above 1000 as it RESTS.
            SLAB 0 "t3 c40"
            PLAN 0 "d b30:1"
            PLAN 1 "d b30:1 d"
            PLAN 2 "d b30:1 d r1"
            PLAN 3 "d b30:1 r1"
            rest 0 0 = 25 told 6
            rest 0 1 = 29 told 1
            rest 0 2 = 30 told 0
            rest 0 3 = 30 told 2
            """);
        e.run("1 a TURN that comes at once behind the last TICK is done, and changes nothing told of it", """
            SLAB 0 "t6 c5 f4"
            PLAN 0 "d i23:8 u i23:8"
            PLAN 1 "d i23:8 u i23:8 u"
            rest 0 0 = 24 told 22
            rest 0 1 = 24 told 22
            """);
    }

    private static void warmthWithin() {
        e.run("2 (a) a quarter, cut toward 0, of what its neighbours are above it: 3 is 0", """
            SLAB 0 "t4 c36"
            PLAN 0 "o4:2"
            dish 0 0 = 2
            go 1 = 1
            depths 0 = 363 360 360 363
            go 1 = 2
            depths 0 = 366 360 360 366
            """);
        e.run("2 (a) a quarter: 4 is 1", """
            SLAB 0 "t4 c35"
            PLAN 0 "o4:2"
            dish 0 0 = 2
            go 1 = 1
            depths 0 = 354 350 350 354
            go 1 = 2
            depths 0 = 356 351 351 356
            """);
        e.run("2 (a) a quarter: 3 below is 0", """
            SLAB 0 "t4 c34"
            PLAN 0 "o3:2"
            dish 0 0 = 2
            go 1 = 1
            depths 0 = 337 340 340 337
            go 1 = 2
            depths 0 = 334 340 340 334
            """);
        e.run("2 (a) a quarter: 4 below is 1 less", """
            SLAB 0 "t4 c35"
            PLAN 0 "o3:2"
            dish 0 0 = 2
            go 1 = 1
            depths 0 = 346 350 350 346
            go 1 = 2
            depths 0 = 344 349 349 344
            """);
        e.run("2 (a) a DEPTH within has two neighbours, all at once", """
            SLAB 0 "t3 c0"
            SLAB 1 "t5 c0"
            PLAN 0 "d i30:3"
            dish 0 0 = 3
            go 1 = 1
            depths 0 = 750 0 12
            go 1 = 2
            depths 0 = 1125 190 20
            go 1 = 3
            depths 0 = 1360 381 73
            dish 1 0 = 3
            go 3 = 3
            depths 0 = 1359 374 47 6 27
            """);
    }

    private static void warmthFromOutside() {
        e.run("2 (a) on IRON down a 4th, cut toward 0", """
            PLAN 0 "i2:1"
            SLAB 0 "t3 c19"
            dish 0 0 = 1
            go 1 = 1
            depth 0 0 = 1 told 192
            SLAB 0 "t3 c20"
            dish 0 0 = 1
            go 1 = 1
            depth 0 0 = 1 told 200
            SLAB 0 "t3 c21"
            dish 0 0 = 1
            go 1 = 1
            depth 0 0 = 1 told 208
            """);
        e.run("2 (a) on IRON up a 16th of 200 less it, cut toward 0", """
            PLAN 0 "i30:1"
            SLAB 0 "t3 c18"
            dish 0 0 = 1
            go 1 = 1
            depth 2 0 = 1 told 181
            SLAB 0 "t3 c19"
            dish 0 0 = 1
            go 1 = 1
            depth 2 0 = 1 told 190
            SLAB 0 "t3 c21"
            dish 0 0 = 1
            go 1 = 1
            depth 2 0 = 1 told 210
            SLAB 0 "t3 c22"
            dish 0 0 = 1
            go 1 = 1
            depth 2 0 = 1 told 219
            """);
        e.run("2 (a) in the OVEN either a 12th, cut toward 0", """
            PLAN 0 "o4:1"
            PLAN 1 "o3:1"
            SLAB 0 "t3 c38"
            dish 0 0 = 1
            go 1 = 1
            depths 0 = 381 380 381
            SLAB 0 "t3 c39"
            dish 0 0 = 1
            go 1 = 1
            depths 0 = 390 390 390
            SLAB 0 "t3 c31"
            dish 0 1 = 1
            go 1 = 1
            depths 0 = 310 310 310
            SLAB 0 "t3 c32"
            dish 0 1 = 1
            go 1 = 1
            depths 0 = 319 320 319
            """);
        e.run("2 (a) in the BATH either a half, cut toward 0", """
            PLAN 0 "b4:2"
            PLAN 1 "b3:2"
            SLAB 0 "t3 c39"
            dish 0 0 = 2
            go 1 = 1
            depths 0 = 395 390 395
            go 1 = 2
            depths 0 = 396 392 396
            SLAB 0 "t3 c31"
            dish 0 1 = 2
            go 1 = 1
            depths 0 = 305 310 305
            go 1 = 2
            depths 0 = 304 308 304
            """);
        e.run("2 (a) at REST either a 20th of 200 less it, cut toward 0", """
            PLAN 0 "r1"
            SLAB 0 "t3 c18"
            dish 0 0 = 1
            go 1 = 1
            depths 0 = 181 180 181
            go 1 = 2
            depths 0 = 181 180 181
            SLAB 0 "t3 c19"
            dish 0 0 = 1
            go 1 = 1
            depths 0 = 190 190 190
            SLAB 0 "t3 c21"
            dish 0 0 = 1
            go 1 = 1
            depths 0 = 210 210 210
            SLAB 0 "t3 c22"
            dish 0 0 = 1
            go 1 = 1
            depths 0 = 219 220 219
            """);
        e.run("2 (a) q from 2 to 30", """
            SLAB 0 "t3 c0"
            PLAN 0 "o2:1"
            dish 0 0 = 1
            go 1 = 1
            depths 0 = 16 0 16
            PLAN 0 "o30:1"
            dish 0 0 = 1
            go 1 = 1
            depths 0 = 250 0 250
            PLAN 0 "b2:1"
            dish 0 0 = 1
            go 1 = 1
            depths 0 = 100 0 100
            PLAN 0 "i2:1"
            dish 0 0 = 1
            go 1 = 1
            depths 0 = 50 0 12
            """);
    }

    private static void wetAndBoiling() {
        e.run("2 (b) a SKIN that is WET and has above 1000: not with 1000", """
            SLAB 0 "t3 c40"
            PLAN 0 "i28:1"
            dish 0 0 = 1
            go 1 = 1
            depth 0 0 = 1 told 1000
            skins 1 = 20 20
            """);
        e.run("2 (b) with 1001 it loses 1 and has 1000 then", """
            SLAB 0 "t3 c34"
            PLAN 0 "i18:3"
            PLAN 1 "d i18:3"
            dish 0 0 = 3
            go 2 = 2
            skins 1 = 20 20
            go 1 = 3
            depth 0 0 = 1 told 1000
            skins 1 = 19 20
            dish 0 1 = 3
            go 3 = 3
            depth 0 0 = 1 told 1001
            """);
        e.run("2 (b) by what is above that by 50 (cut) and 1 together: 1049 and 1050", """
            SLAB 0 "t3 c26"
            PLAN 0 "i17:5"
            dish 0 0 = 5
            go 4 = 4
            skins 1 = 20 20
            go 1 = 5
            depth 0 0 = 1 told 1000
            skins 1 = 19 20
            SLAB 1 "t3 c40"
            PLAN 1 "i30:1"
            dish 1 1 = 1
            go 1 = 1
            depth 0 0 = 1 told 1000
            skins 1 = 18 20
            """);
        e.run("2 (b) 1099 and 1100", """
            SLAB 0 "t3 c2"
            PLAN 0 "i24:3"
            dish 0 0 = 3
            go 2 = 2
            skins 1 = 20 20
            go 1 = 3
            skins 1 = 18 20
            PLAN 0 "i29:2"
            dish 0 0 = 2
            go 1 = 1
            skins 1 = 20 20
            go 1 = 2
            skins 1 = 17 20
            """);
        e.run("2 (b) 0 at least: WET 3, 2, 1 lose 2", """
            PLAN 0 "i30:2"
            SLAB 0 "t3 c40 s47"
            dish 0 0 = 2
            go 1 = 1
            skins 1 = 1 3
            depth 0 0 = 1 told 1000
            SLAB 0 "t3 c40 s48"
            dish 0 0 = 2
            go 1 = 1
            skins 1 = 0 2
            depth 0 0 = 1 told 1000
            SLAB 0 "t3 c40 s49"
            dish 0 0 = 2
            go 1 = 1
            skins 1 = 0 1
            depth 0 0 = 1 told 1000
            go 1 = 2
            depth 0 0 = 1 told 1350
            """);
        e.run("2 (b) a SKIN that is not WET goes on above 1000", """
            PLAN 0 "i30:1"
            SLAB 0 "t3 c40 s50"
            dish 0 0 = 1
            go 1 = 1
            skins 1 = 0 0
            depth 0 0 = 1 told 1050
            """);
        e.run("2 (b) a SKIN of WET 1 is WET", """
            PLAN 0 "i30:1"
            SLAB 0 "t3 c34 s49"
            dish 0 0 = 1
            go 1 = 1
            depth 0 0 = 1 told 1000
            skins 1 = 0 1
            """);
        e.run("2 (b) either SKIN", """
            SLAB 0 "t3 c40"
            PLAN 0 "u i30:1"
            dish 0 0 = 1
            go 1 = 1
            skins 1 = 20 18
            depths 0 = 388 400 1000
            """);
        e.run("2 (b) in the BATH both have WET 30 then", """
            PLAN 0 "b2:1"
            PLAN 1 "d b2:1"
            SLAB 0 "t3 c5"
            dish 0 0 = 1
            go 1 = 1
            skins 1 = 30 30
            dish 0 1 = 1
            go 1 = 1
            skins 1 = 30 30
            SLAB 0 "t3 c5 s10"
            dish 0 0 = 1
            skins 1 = 40 40
            go 1 = 1
            skins 1 = 30 30
            SLAB 0 "t3 c5 s60"
            dish 0 0 = 1
            go 1 = 1
            skins 1 = 30 30
            """);
        e.run("2 (b) then: a dry SKIN has what it has, and has 1000 a TICK later", """
            SLAB 0 "t3 c0"
            PLAN 0 "d b21:2"
            PLAN 1 "b21:1"
            dish 0 0 = 2
            go 1 = 1
            depths 0 = 1050 0 1050
            skins 1 = 30 30
            go 1 = 2
            depths 0 = 1000 525 1000
            skins 1 = 30 30
            dish 0 1 = 1
            go 1 = 1
            depths 0 = 1000 0 1000
            """);
    }

    private static void mostAndJuice() {
        e.run("2 MOST: the greatest WARMTH it ever had, the first one, too", """
            SLAB 0 "t3 c40"
            PLAN 0 "b2:3 b30:1 b2:5"
            dish 0 0 = 9
            go 3 = 3
            depths 0 = 256 313 256
            depths 1 = 400 400 400
            go 1 = 4
            depths 0 = 1000 285 1000
            depths 1 = 1000 400 1000
            go 5 = 9
            depths 0 = 270 340 270
            depths 1 = 1000 642 1000
            """);
        e.run("2 (c) MOST comes behind (b)", """
            SLAB 0 "t3 c0"
            PLAN 0 "b30:1"
            PLAN 1 "d b30:1"
            dish 0 0 = 1
            go 1 = 1
            depths 1 = 1000 0 1000
            depths 2 = 96 100 96
            dish 0 1 = 1
            go 1 = 1
            depths 1 = 1500 0 1500
            depths 2 = 91 100 91
            """);
        e.run("2 (d) JUICE of each DEPTH above 550, by what is above that by 100 (cut)", """
            SLAB 0 "t3 c0"
            PLAN 0 "b11:1"
            dish 0 0 = 1
            go 1 = 1
            depths 0 = 550 0 550
            depths 2 = 100 100 100
            PLAN 0 "b13:1"
            dish 0 0 = 1
            go 1 = 1
            depths 0 = 650 0 650
            depths 2 = 99 100 99
            PLAN 0 "b15:1"
            dish 0 0 = 1
            go 1 = 1
            depths 0 = 750 0 750
            depths 2 = 98 100 98
            """);
        e.run("2 (d) 649 and 749, within too", """
            SLAB 0 "t3 c23"
            PLAN 0 "b9:2"
            dish 0 0 = 2
            go 2 = 2
            depths 0 = 649 397 649
            depths 2 = 100 100 100
            SLAB 0 "t3 c22"
            PLAN 0 "b12:3"
            dish 0 0 = 3
            go 2 = 2
            depth 1 2 = 1 told 100
            go 1 = 3
            depth 1 0 = 1 told 649
            depth 1 2 = 1 told 100
            SLAB 0 "t3 c33"
            PLAN 0 "b10:2"
            dish 0 0 = 2
            go 1 = 1
            depth 0 2 = 1 told 99
            go 1 = 2
            depth 0 0 = 1 told 749
            depth 0 2 = 1 told 98
            """);
        e.run("2 (d) 650 and 750 within", """
            SLAB 0 "t3 c30"
            PLAN 0 "b17:2"
            dish 0 0 = 2
            go 2 = 2
            depth 1 0 = 1 told 650
            depth 1 2 = 1 told 99
            SLAB 0 "t3 c0"
            PLAN 0 "d b30:2"
            dish 0 0 = 2
            go 2 = 2
            depth 1 0 = 1 told 750
            depth 1 2 = 1 told 98
            """);
        e.run("2 (d) 0 at least: just 0, and no less", """
            SLAB 0 "t3 c0"
            PLAN 0 "i30:60"
            dish 0 0 = 60
            go 11 = 11
            depth 0 2 = 1 told 14
            go 1 = 12
            depth 0 2 = 1 told 0
            SLAB 0 "t3 c29"
            dish 0 0 = 60
            go 10 = 10
            depth 0 2 = 1 told 14
            go 1 = 11
            depth 0 2 = 1 told 0
            go 20 = 31
            depth 0 2 = 1 told 0
            """);
    }

    private static void brown() {
        e.run("2 (e) 1400 or more: not with 1399, whatever FAT", """
            SLAB 0 "t3 c16 f9"
            PLAN 0 "d i26:4"
            dish 0 0 = 4
            go 4 = 4
            depth 0 0 = 1 told 1399
            skins 2 = 0 0
            """);
        e.run("2 (e) with 1400 by FAT by 4 (cut) alone", """
            PLAN 0 "d i28:3"
            SLAB 0 "t3 c24 f3"
            dish 0 0 = 3
            go 3 = 3
            depth 0 0 = 1 told 1400
            skins 2 = 0 0
            SLAB 0 "t3 c24 f4"
            dish 0 0 = 3
            go 3 = 3
            skins 2 = 1 0
            SLAB 0 "t3 c24 f7"
            dish 0 0 = 3
            go 3 = 3
            skins 2 = 1 0
            SLAB 0 "t3 c24 f8"
            dish 0 0 = 3
            go 3 = 3
            skins 2 = 2 0
            SLAB 0 "t3 c24 f9"
            dish 0 0 = 3
            go 3 = 3
            skins 2 = 2 0
            """);
        e.run("2 (e) by what is above 1400 by 100 (cut): 1499 and 1500", """
            SLAB 0 "t3 c3 f0"
            PLAN 0 "d i27:5"
            dish 0 0 = 5
            go 5 = 5
            depth 0 0 = 1 told 1499
            skins 2 = 0 0
            # FAT by 4 is cut by itself
            SLAB 0 "t3 c3 f3"
            dish 0 0 = 5
            go 5 = 5
            skins 2 = 0 0
            SLAB 0 "t3 c34 f0"
            PLAN 0 "d i29:3"
            dish 0 0 = 3
            go 2 = 2
            skins 2 = 0 0
            go 1 = 3
            depth 0 0 = 1 told 1500
            skins 2 = 1 0
            """);
        e.run("2 (e) a SKIN that is not WET: in the BATH it is", """
            SLAB 0 "t3 c40 f9"
            PLAN 0 "d b30:1 d b30:1 d r1"
            dish 0 0 = 3
            go 1 = 1
            depths 0 = 1700 400 1700
            skins 2 = 0 0
            go 1 = 2
            depths 0 = 2025 1050 2025
            skins 2 = 0 0
            go 1 = 3
            depths 0 = 1691 1537 1691
            skins 2 = 4 4
            """);
        e.run("2 (e) either SKIN, up, too", """
            SLAB 0 "t3 c40 f4"
            PLAN 0 "d o30:20"
            dish 0 0 = 20
            go 20 = 20
            skins 2 = 61 61
            PLAN 0 "d i30:20 u i2:1"
            dish 0 0 = 21
            go 20 = 20
            skin 0 2 = 1 told 139
            go 1 = 21
            depth 0 0 = 1 told 2126
            skin 0 2 = 1 told 147
            """);
    }

    private static void kinds() {
        e.run("2 KINDS: 5 SALTED of a SLAB of SALT above 0, else 1 WET", """
            PLAN 0 ""
            SLAB 0 "s0"
            dish 0 0 = 0
            skins 0 = 1 1
            count 3 = 2
            SLAB 0 "s1"
            dish 0 0 = 0
            skins 0 = 5 5
            count 3 = 2
            SLAB 0 "s60"
            dish 0 0 = 0
            skins 0 = 0 0
            count 3 = 0
            """);
        e.run("2 KINDS: WET 1 is WET, WET 0 is not", """
            PLAN 0 ""
            SLAB 0 "s49"
            dish 0 0 = 0
            skins 0 = 5 5
            SLAB 0 "s50"
            dish 0 0 = 0
            skins 0 = 0 0
            """);
        e.run("2 KINDS: SALTED, WET are ahead of RESTED, COOLING", """
            SLAB 0 "t3 s5"
            SLAB 1 "t3"
            PLAN 0 "i5:1 r1"
            dish 0 0 = 2
            go 1 = 1
            skins 0 = 5 5
            go 1 = 2
            skins 0 = 5 5
            dish 1 0 = 2
            go 1 = 1
            skins 0 = 1 1
            go 1 = 2
            skins 0 = 1 1
            """);
    }

    private static void browningKinds() {
        e.run("2 KINDS: 3 BROWNING: BROWN 20 or more, not 19", """
            SLAB 0 "t3 c20 f4"
            SLAB 1 "t3 c26 f4"
            PLAN 0 "d i30:7"
            dish 0 0 = 7
            go 7 = 7
            skin 0 2 = 1 told 19
            skin 0 0 = 1 told 0
            mark 0 3 = UNLIKE
            count 4 = 0
            dish 1 0 = 7
            go 7 = 7
            skin 0 2 = 1 told 20
            skin 0 0 = 1 told 3
            mark 0 3 = 20
            mark 0 6 = UNLIKE
            count 4 = 1
            """);
        e.run("2 KINDS: 6 BURNT: BROWN above 100", """
            SLAB 0 "t3 c20 f4"
            SLAB 1 "t3 c24 f4"
            PLAN 0 "d i30:17"
            dish 0 0 = 17
            go 17 = 17
            skin 0 2 = 1 told 100
            skin 0 0 = 1 told 3
            mark 0 3 = 100
            mark 0 6 = UNLIKE
            dish 1 0 = 17
            go 17 = 17
            skin 0 2 = 1 told 101
            skin 0 0 = 1 told 6
            mark 0 3 = 101
            mark 0 6 = 1
            count 4 = 1
            """);
        e.run("2 KINDS: BROWNING, BURNT are ahead of all others", """
            SLAB 0 "t3 c26 f4 s5"
            PLAN 0 "d i30:7 b2:1 u i2:1 r1"
            dish 0 0 = 10
            go 7 = 7
            skins 0 = 3 2
            go 1 = 8
            skins 1 = 30 30
            skins 0 = 3 5
            count 3 = 1
            mark 0 1 = UNLIKE
            mark 0 5 = UNLIKE
            mark 0 3 = 20
            go 1 = 9
            skins 0 = 3 5
            mark 0 2 = UNLIKE
            go 1 = 10
            skins 0 = 3 5
            mark 0 4 = UNLIKE
            """);
        e.run("2 KINDS: a BURNT one that is wet", """
            SLAB 0 "t3 c24 f4"
            PLAN 0 "d i30:17 b2:1"
            dish 0 0 = 18
            go 18 = 18
            skin 0 1 = 1 told 30
            skin 0 0 = 1 told 6
            mark 0 1 = UNLIKE
            mark 0 6 = 1
            count 3 = 1
            count 4 = 1
            """);
    }

    private static void restedAndCooling() {
        e.run("2 KINDS: neither behind dish()", """
            SLAB 0 "t3 s60"
            PLAN 0 "i5:1 o5:1 i5:1 r2 i5:1 u"
            dish 0 0 = 6
            skins 0 = 0 0
            mark 1 2 = UNLIKE
            mark 1 4 = UNLIKE
            go 0 = 0
            skins 0 = 0 0
            """);
        e.run("2 KINDS: 2 COOLING: up in the latest TICK on IRON; 4 RESTED: the latest TICK was REST", """
            SLAB 0 "t3 s60"
            PLAN 0 "i5:1 o5:1 u i5:1 r2 b2:1 d i5:1 u"
            dish 0 0 = 7
            go 1 = 1
            skins 0 = 0 2
            mark 0 2 = UNLIKE
            mark 1 2 = 59
            mark 1 4 = UNLIKE
            go 1 = 2
            skins 0 = 0 0
            go 1 = 3
            skins 0 = 2 0
            go 1 = 4
            skins 0 = 4 4
            go 1 = 5
            skins 0 = 4 4
            go 1 = 6
            skins 0 = 5 5
            """);
        e.run("2 KINDS: a TURN that is not done yet changes none", """
            SLAB 0 "t3 s60"
            PLAN 0 "i5:2 u i5:1"
            dish 0 0 = 3
            go 2 = 2
            skins 0 = 0 2
            go 0 = 2
            skins 0 = 0 2
            go 1 = 3
            skins 0 = 2 0
            """);
    }

    private static void colours() {
        e.run("2 PINK, if 500 or more: not 499", """
            SLAB 0 "t3 c29"
            PLAN 0 "o28:1"
            dish 0 0 = 1
            go 1 = 1
            depths 1 = 499 290 499
            slice 0 = 0
            places 0 = 0 0 0
            just 500 649 = 0
            just 499 499 = 2
            SLAB 0 "t3 c0"
            PLAN 0 "b10:1"
            dish 0 0 = 1
            go 1 = 1
            depths 1 = 500 0 500
            slice 0 = 2
            places 0 = 1 0 1
            just 500 649 = 2
            """);
        e.run("2 GREY, if 650 or more: not 649", """
            SLAB 0 "t3 c23"
            PLAN 0 "b9:2"
            dish 0 0 = 2
            go 2 = 2
            depths 1 = 649 397 649
            slice 0 = 2
            places 0 = 1 0 1
            SLAB 0 "t3 c0"
            PLAN 0 "b13:1"
            dish 0 0 = 1
            go 1 = 1
            depths 1 = 650 0 650
            slice 0 = 0
            places 0 = 2 0 2
            just 500 649 = 0
            """);
        e.run("2 GREY: 651 and more", """
            SLAB 0 "t3 c2"
            PLAN 0 "b13:1"
            PLAN 1 "d b30:1"
            dish 0 0 = 1
            go 1 = 1
            depths 1 = 660 20 660
            slice 0 = 0
            places 0 = 2 0 2
            dish 0 1 = 1
            go 1 = 1
            depths 1 = 1510 20 1510
            slice 0 = 0
            places 0 = 2 0 2
            """);
        e.run("2 by its MOST, whatever it has now", """
            SLAB 0 "t3 c0"
            PLAN 0 "b13:1 b2:5"
            dish 0 0 = 6
            go 6 = 6
            slice 0 = 0
            places 0 = 2 0 2
            just 650 650 = 2
            """);
    }

    private static void loss() {
        e.run("2 CUT: x is what WARMTH is above 400 by 100 (cut): 400, 499, 500", """
            SLAB 0 "t3 c0"
            PLAN 0 "b8:1"
            dish 0 0 = 1
            go 1 = 1
            depths 0 = 400 0 400
            cut 0 = 0 told 0
            PLAN 0 "b10:1"
            dish 0 0 = 1
            go 1 = 1
            depths 0 = 500 0 500
            cut 0 = 10 told 10
            SLAB 0 "t3 c29"
            PLAN 0 "o28:1"
            dish 0 0 = 1
            go 1 = 1
            depths 0 = 499 290 499
            cut 0 = 0 told 0
            """);
        e.run("2 CUT: 599 and 600", """
            SLAB 0 "t3 c39"
            PLAN 0 "o29:1"
            dish 0 0 = 1
            go 1 = 1
            depths 0 = 599 390 599
            cut 0 = 10 told 10
            SLAB 0 "t3 c0"
            PLAN 0 "b12:1"
            dish 0 0 = 1
            go 1 = 1
            depths 0 = 600 0 600
            depths 2 = 100 100 100
            cut 0 = 20 told 20
            """);
        e.run("2 CUT: its JUICE times x by 20 (cut)", """
            SLAB 0 "t3 c0"
            PLAN 0 "b13:1"
            dish 0 0 = 1
            go 1 = 1
            depths 0 = 650 0 650
            depths 2 = 99 100 99
            # 99 times 2 by 20 is 9, and so twice
            cut 0 = 18 told 18
            """);
        e.run("2 CUT: all of it at most", """
            # Once more and more WARMTH: what is lost grows to all there is.
            SLAB 0 "t3 c40"
            PLAN 0 "d b30:1 d b30:1 d b30:1 d b30:1"
            dish 0 0 = 4
            go 1 = 1
            depths 0 = 1700 400 1700
            depths 2 = 89 100 89
            cut 0 = 114 told 114
            go 1 = 2
            depths 0 = 2025 1050 2025
            depths 2 = 75 95 75
            cut 0 = 148 told 148
            go 1 = 3
            depths 0 = 2269 1537 2269
            depths 2 = 58 86 58
            cut 0 = 151 told 151
            go 1 = 4
            depths 0 = 2451 1903 2451
            depths 2 = 39 73 39
            cut 0 = 132 told 132
            """);
        e.run("2 CUT: no more than all, above 2500", """
            # 20 times 21 by 20 is 21: but there are 20.
            SLAB 0 "t3 c40"
            PLAN 0 "d b30:1 d b30:1 d b30:1 d b30:1 d b30:1 d b30:1"
            dish 0 0 = 6
            go 6 = 6
            depths 0 = 2692 2382 2692
            depths 2 = 0 39 0
            cut 0 = 37 told 37
            cut 1 = 37 told 20
            go 1 = 7
            depths 0 = 1000 2537 1000
            depths 2 = 0 20 0
            cut 0 = 20 told 20
            """);
    }
}
