/** The boundary cases of ANSWERS and FINDINGS, and of promises 42 to 48: what is told. */
public final class ToldEdgesTest {
    /** One of all that there is. */
    private static final String KITCHEN = """
        SLAB 0 "t3 c5"
        SLAB 1 "t3 c20 s3 f5"
        PLAN 0 "i28:9 u i28:9"
        PLAN 1 "b6:5"
        ROW 0: 3 -1 4
        ROW 1: 0 0 0
        row 2 0 = 0
        """;
    private static final Edges e = new Edges("ToldEdgesTest");

    public static void main(String[] args) {
        constants();
        refusedInOrder();
        findings();
        asked();
        askedByDishes();
        askedBySearches();
        notAsked();
        fractions();
        counts();
        countsOfSkins();
        digest();
        e.end();
    }

    private static void constants() {
        int[] due = {-1, -2, -3, -4, -6, -9};
        int[] are = {SlabTurn.BAD, SlabTurn.FULL, SlabTurn.FINDING, SlabTurn.STATE, SlabTurn.SPENT, SlabTurn.NONE};
        for (int i = 0; i < due.length; i++) {
            e.due("constant " + i + " is ", are[i], due[i]);
        }
    }

    private static void refusedInOrder() {
        e.run("ANSWERS: BAD is ahead of STATE, of SPENT, of a FINDING", KITCHEN + """
            go 201 = BAD
            depth 0 3 = BAD
            mark 0 0 = BAD
            keep 3 = BAD
            slice 6 = BAD
            go 200 = STATE
            depth 19 0 = STATE
            mark 1 6 = STATE
            dish 0 0 = 18
            go 200 = 200
            go 100 = 300
            go 201 = BAD
            go 200 = SPENT
            depth 20 3 = BAD
            depth 19 0 = BEYOND
            mark 1 0 = BAD
            """);
        e.run("ANSWERS: NOTHING is ahead of STATE for slab() and plan()", """
            TEXT 0 "x"
            slab 0 0 = STATE
            plan 0 0 = STATE
            slab 0 1 = NOTHING
            plan 0 1 = NOTHING
            slab 4 1 = BAD
            plan 4 0 = BAD
            finding = 1
            findings 1 = 2
            """);
    }

    private static void findings() {
        e.run("46 the latest FINDING; 47 how often", """
            finding = 0
            tear 0 = NOTHING
            finding = 1
            row 0 0 = 0
            at 0 0 = BEYOND
            finding = 2
            mean 0 = NOUGHT
            finding = 4
            row 0 -1 = SIZE
            finding = 5
            ROW 0: 0 0 3
            which 0 = UNLIKE
            finding = 3
            at 0 3 = BEYOND
            finding = 2
            findings 1 = 1
            findings 2 = 2
            findings 3 = 1
            findings 4 = 1
            findings 5 = 1
            """);
        e.run("46, 47 BAD, STATE, SPENT, NONE and what is taken are no FINDING", KITCHEN + """
            at 5 0 = NOTHING
            at 6 0 = BAD
            go 1 = STATE
            safe 0 2 = NONE
            row 3 2 = 2
            dish 0 0 = 18
            go 200 = 200
            go 101 = SPENT
            finding = 1
            findings 1 = 1
            """);
        e.run("47 FINDINGS 1 .. 5", """
            findings 0 = BAD
            findings 1 = 0
            findings 5 = 0
            findings 6 = BAD
            findings -1 = BAD
            findings 2147483647 = BAD
            findings -2147483648 = BAD
            findings -3 = BAD
            """);
        e.run("46 a SLAB, a PLAN, a kept DISH that is missing is NOTHING", """
            about 0 0 = NOTHING
            step 0 0 = NOTHING
            on 0 = NOTHING
            put 0 0 0 = NOTHING
            fault 0 slab = NOTHING
            finding = 1
            findings 1 = 5
            """);
    }

    private static void asked() {
        e.run("42 lay, at, mean, about, step; what is refused tells nothing", KITCHEN + """
            asked = 0
            lay 0 0 9 = 1 told 3
            asked = 3
            at 0 1 = 1 told -1
            at 0 3 = BEYOND
            asked = -1
            mean 0 = 1 told 4
            mean 2 = NOUGHT
            mean 6 = BAD
            asked = 4
            about 1 2 = 1 told 3
            about 2 0 = NOTHING
            asked = 3
            step 0 0 = 1 told 2809
            step 0 1 = 5 told 0
            step 1 0 = 3 told 605
            step 1 1 = BEYOND
            asked = 605
            """);
    }

    private static void askedByDishes() {
        e.run("42 depth, skin, just, cut, rise, wire", KITCHEN + """
            depth 0 0 = STATE
            rise = STATE
            asked = 0
            dish 1 1 = 5
            go 5 = 5
            asked = 0
            depth 1 0 = 1 told 473
            skin 0 1 = 1 told 30
            just 500 649 = 2 told 300
            just 0 4000 = 3 told 300
            cut 0 = 10 told 10
            rise = 32 told 1
            wire 0 = 473 told 473
            wire 1 = 537 told 537
            depth 3 0 = BEYOND
            depth 0 3 = BAD
            skin 2 0 = BAD
            just 5 4 = BAD
            cut 61 = BAD
            wire 10 = BAD
            asked = 537
            """);
    }

    private static void askedBySearches() {
        e.run("42 way, often, turns, most, off, rest, salt, thick", KITCHEN + """
            way 0 20 1 1 = 0 told 1
            often 0 20 3 1 = 100 told 23
            turns 0 20 4 = 3 told 1
            most 0 0 4000 0 = 140401 told 3
            off 0 20 1 500 = 3 told 24
            rest 0 0 = 5 told 0
            salt 0 0 = 48 told 14
            thick 0 1 0 4000 = 18 told 3
            thick 0 1 4000 4000 = 0 told NONE
            asked = -9
            way 0 9 1 1 = BAD
            way 2 20 1 1 = NOTHING
            often 0 20 121 1 = BAD
            turns 2 20 4 = NOTHING
            most 0 5 4 0 = BAD
            off 0 20 1 2001 = BAD
            rest 0 2 = NOTHING
            salt 4 0 = BAD
            thick 0 1 5 4 = BAD
            asked = -9
            """);
        e.run("42 same, both, safe, which, rule", KITCHEN + """
            same 0 1 20 1 300 100 = 2 told 0
            same 1 0 20 1 100 300 = 2 told 1
            same 0 1 20 1 2000 100 = NONE
            asked = 1
            both 0 1 20 60 2000 = 2 told 199
            both 0 1 20 2000 0 = NONE
            asked = 199
            safe 0 9 = 15 told 884
            safe 0 2 = NONE
            asked = 884
            which 1 = 1 told 2
            which 0 = UNLIKE
            asked = 2
            row 1 4 = 4
            which 1 = NONE
            asked = 2
            rule 0 20 1 0 = 1 told 189
            rule 0 20 1 2001 = BAD
            asked = 189
            """);
    }

    private static void notAsked() {
        e.run("42 no other call", KITCHEN + """
            at 0 0 = 1 told 3
            row 3 5 = 5
            copy 0 0 3 0 3 = 1
            tear 3 = 1
            text 0 5 = 5
            put 0 0 116 = 1032
            put 0 1 53 = 1032
            fault 0 slab = NONE
            fault 0 plan = 0
            slab 2 0 = 1
            text 0 1 = 1
            put 0 0 117 = 1032
            plan 2 0 = 1
            dish 0 0 = 18
            go 3 = 3
            keep 0 = 3
            on 0 = 3
            mark 0 1 = 12
            slice 4 = 0
            order 3 5 = 10
            odds 1 0 = 2
            upper = 0
            lower = 1
            count 2 = 3
            findings 1 = 0
            asked = 3
            """);
    }

    private static void fractions() {
        e.run("43, 44 0 by 1 before", """
            upper = 0
            lower = 1
            odds 0 0 = NOTHING
            upper = 0
            lower = 1
            """);
        e.run("43, 44 the one that was told last", """
            SLAB 0 "t3"
            SLAB 1 "t3"
            PLAN 0 ""
            PLAN 1 ""
            PLAN 2 ""
            ROW 0: 0 0 0
            ROW 1: 0 0
            odds 0 0 = 6
            upper = 1
            lower = 3
            odds 0 3 = 6
            upper = 0
            lower = 1
            odds 0 2 = 6
            upper = 1
            lower = 3
            odds 1 0 = SIZE
            upper = 1
            lower = 3
            """);
    }

    private static void counts() {
        e.run("45 what 0 .. 7", KITCHEN + """
            count -1 = BAD
            count 8 = BAD
            count 2147483647 = BAD
            count -2147483648 = BAD
            count 0 = 2
            count 1 = 2
            count 2 = 0
            count 3 = 0
            count 4 = 0
            count 5 = 0
            count 6 = 3
            count 7 = 1
            """);
        e.run("45 each that is there, none twice", """
            SLAB 0 ""
            SLAB 0 ""
            SLAB 3 ""
            count 0 = 2
            SLAB 1 ""
            SLAB 2 ""
            count 0 = 4
            PLAN 3 ""
            PLAN 3 "u"
            count 1 = 1
            PLAN 0 ""
            PLAN 1 ""
            PLAN 2 ""
            count 1 = 4
            text 0 0 = 0
            text 0 1 = 1
            count 7 = 2
            text 1 80 = 80
            text 2 0 = 0
            count 7 = 4
            row 0 0 = 0
            row 0 1 = 1
            row 5 0 = 0
            count 6 = 2
            tear 0 = 1
            count 6 = 1
            tear 5 = 1
            count 6 = 0
            """);
        e.run("45 the DISH's TICK; kept DISHES", """
            SLAB 0 ""
            PLAN 0 "r9"
            count 2 = 0
            dish 0 0 = 9
            count 2 = 0
            go 7 = 7
            count 2 = 7
            keep 0 = 7
            keep 0 = 7
            count 5 = 1
            keep 1 = 7
            keep 2 = 7
            count 5 = 3
            on 0 = 7
            count 5 = 3
            go 200 = 207
            go 93 = 300
            count 2 = 300
            """);
    }

    private static void countsOfSkins() {
        e.run("45 WET SKINS (SALTED, too), BROWNING ones (BURNT, too)", """
            SLAB 0 "t20 f9"
            SLAB 1 "s3"
            PLAN 0 "i30:60 u b20:1 d r1"
            PLAN 1 "d r1"
            dish 0 0 = 62
            count 3 = 2
            count 4 = 0
            go 60 = 60
            skins 0 = 6 1
            count 3 = 1
            count 4 = 1
            go 1 = 61
            skins 0 = 6 1
            skins 1 = 30 30
            count 3 = 1
            count 4 = 1
            go 1 = 62
            skins 0 = 6 4
            count 3 = 0
            count 4 = 1
            dish 1 1 = 1
            skins 0 = 5 5
            count 3 = 2
            go 1 = 1
            skins 0 = 4 4
            count 3 = 0
            """);
        e.run("45 both BROWNING", """
            SLAB 0 "t3 f4"
            PLAN 0 "d o30:60"
            dish 0 0 = 60
            go 16 = 16
            skins 2 = 18 18
            count 4 = 0
            go 1 = 17
            skins 2 = 23 23
            skins 0 = 3 3
            count 4 = 2
            go 40 = 57
            skins 0 = 6 6
            count 4 = 2
            """);
    }

    private static void digest() {
        e.run("48 of nothing", """
            digest = -3886905883619345810
            """);
        e.run("48 of one of each", """
            ROW 5: 1 -1
            digest = -6929675202382572784
            TEXT 0 "t"
            digest = 8685573674419750557
            SLAB 3 "t3c0s60f9"
            digest = -2665190148155884538
            PLAN 0 "i30:60 d r5"
            digest = -4606228586866539265
            dish 3 0 = 65
            digest = 2437065952520828261
            go 1 = 1
            digest = -2173503030111014238
            go 30 = 31
            keep 2 = 31
            digest = 4680445981043792782
            tear 5 = 1
            digest = 8965720052765218348
            text 3 0 = 0
            digest = 2986843820048506522
            """);
        e.run("48 a PLAN of no STEPS and one that is missing", """
            digest = -3886905883619345810
            PLAN 0 ""
            digest = 4836048591208573556
            PLAN 3 ""
            digest = -5363947969506933268
            """);
        e.run("48 a ROW of no ints and one that is missing", """
            row 0 0 = 0
            digest = -3116833305587048178
            tear 0 = 1
            digest = -3886905883619345810
            row 1 0 = 0
            digest = -3116858892318171408
            """);
    }
}
