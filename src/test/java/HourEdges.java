/** The sentences on mills, wind and hours that name a boundary case: Terms 2, promises 9 to 16. */
final class HourEdges {
    private static final int LEAST = Integer.MIN_VALUE;
    private static final int MOST = Integer.MAX_VALUE;
    private static final int[] NO_QUARTERS = {-1, 4, LEAST, MOST};
    private static final int[] NO_STRENGTHS = {-1, 101, LEAST, MOST};
    /** A fixed one; a hooded one 2 south of it, behind it in north wind; a ruin far off. */
    private static final String THREE = "law 50 0 0; mill fixed 5 5 1 4 7 99;"
        + "mill hooded 5 7 1 2 8 99; mill ruin 20 20 9 9 9 99;";
    private static final int[] NO_MILLS = {-1, 3, 8, LEAST, MOST};

    private HourEdges() {
    }

    static void run() {
        termsQuarters();
        termsSixFurther();
        termsOneAside();
        termsNoFewerFloors();
        termsTurnsIfNotFurled();
        termsTurnsIfNoRuin();
        termsFixedFaces();
        termsTakesIfItTurns();
        termsTakesIfNoWaterOne();
        termsStrength();
        termsLessByTake();
        termsGrinds();
        termsHalfGrinds();
        termsWaterGrinds();
        termsNoMoreThanCorn();
        termsWear();
        promise9HowItWas();
        promise9Bad();
        promise10WhichItFaced();
        promise10Bad();
        promise10Ruin();
        promise11HowMany();
        promise11Bad();
        promise11Full();
        promise12Sacks();
        promise12AtMost();
        promise12Bad();
        promise13WhatAllGrind();
        promise13Bad();
        promise13State();
        promise14Winds();
        promise14UpTo24();
        promise14FromIOn();
        promise14Bad();
        promise14State();
        promise14Null();
        promise14Place();
        promise14NoWind();
        promise15OfAMill();
        promise15Bad();
        promise16WindLeft();
        promise16Behind();
        promise16Bad();
    }

    /** A mill at 10, 10 and another one so far towards a quarter, and so far aside. */
    private static WindTaken two(int q, int further, int aside, int floors, int othersFloors) {
        int x = q == 1 ? 10 + further : q == 3 ? 10 - further : 10 + aside;
        int y = q == 0 ? 10 - further : q == 2 ? 10 + further : 10 + aside;
        return Texts.ridgeOf("law 50 0 0; mill hooded 10 10 " + floors + " 1 0 99; mill hooded "
            + x + " " + y + " " + othersFloors + " 1 0 99;");
    }

    private static void termsQuarters() {
        Edge e = Edge.ofTerms("QUARTERS 0 .. 3: the wind comes from north (Y less), east (X more), south, west.");
        WindTaken x = Texts.ridgeOf("law 50 0 0; mill hooded 10 10 1 1 0 0; mill hooded 10 9 1 1 0 0;"
            + "mill hooded 11 10 1 1 0 0; mill hooded 10 11 1 1 0 0; mill hooded 9 10 1 1 0 0;");
        int[] wanted = {2, 4, 8, 16};
        for (int q = 0; q <= 3; q++) {
            e.due("who stands towards " + q, x.left(0, q, 100, 1), wanted[q]);
        }
        for (int q : NO_QUARTERS) {
            e.bad("left(0, " + q + ", 100, 1)", x.left(0, q, 100, 1));
            e.bad("hour(" + q + ", 100)", x.hour(q, 100));
            e.bad("face(0, " + q + ")", x.face(0, q));
        }
    }

    private static void termsSixFurther() {
        Edge e = Edge.ofTerms("In wind of a quarter q a MILL stands BEHIND another one, "
            + "if that one stands 1 to 6 further towards q");
        for (int q = 0; q <= 3; q++) {
            for (int aside = -1; aside <= 1; aside++) {
                for (int further = -7; further <= 7; further++) {
                    if (further != 0 || aside != 0) {
                        WindTaken x = two(q, further, aside, 1, 1);
                        boolean is = further >= 1 && further <= 6;
                        String call = "q " + q + ", further " + further + ", aside " + aside;
                        e.due(call, x.left(0, q, 0, 1), is ? 2 : 0);
                        e.due(call + ": wind left", x.left(0, q, 100, 0), is ? 50 : 100);
                    }
                }
            }
        }
    }

    private static void termsOneAside() {
        Edge e = Edge.ofTerms(", 1 at most aside,");
        for (int q = 0; q <= 3; q++) {
            for (int aside = -3; aside <= 3; aside++) {
                boolean is = aside >= -1 && aside <= 1;
                String call = "q " + q + ", aside " + aside;
                e.due(call + ", next", two(q, 1, aside, 1, 1).left(0, q, 0, 1), is ? 2 : 0);
                e.due(call + ", 6 further", two(q, 6, aside, 1, 1).left(0, q, 0, 1), is ? 2 : 0);
            }
        }
    }

    private static void termsNoFewerFloors() {
        Edge e = Edge.ofTerms("and has no fewer FLOORS than it.");
        for (int floors = 1; floors <= 9; floors++) {
            for (int others = 1; others <= 9; others++) {
                int got = two(0, 1, 0, floors, others).left(0, 0, 0, 1);
                e.due(floors + " behind " + others, got, others >= floors ? 2 : 0);
            }
        }
    }

    private static void termsTurnsIfNotFurled() {
        Edge e = Edge.ofTerms("A MILL TURNS, if it is not furled");
        WindTaken x = Texts.ridgeOf("law 50 0 0; mill hooded 5 5 1 4 0 99; mill hooded 5 6 1 4 0 99;");
        e.due("hour(0, 100), both turn", x.hour(0, 100), 40 + 20);
        x.furl(0, 1);
        e.due("hour(0, 100), the first is furled", x.hour(0, 100), 40);
        e.due("its wear", x.mill(0, 5), 10);
        x.furl(0, 0);
        e.due("hour(0, 100), it is no longer", x.hour(0, 100), 40 + 20);
    }

    private static void termsTurnsIfNoRuin() {
        Edge e = Edge.ofTerms(", no ruin,");
        WindTaken x = Texts.ridgeOf("law 50 0 0; mill ruin 5 5 9 9 0 99; mill hooded 5 6 1 4 0 99;");
        e.due("hour(0, 100)", x.hour(0, 100), 40);
        e.due("its corn", x.mill(0, 3), 99);
        e.due("its flour", x.mill(0, 4), 0);
        e.due("its wear", x.mill(0, 5), 0);
    }

    private static void termsFixedFaces() {
        Edge e = Edge.ofTerms("and, if its SORT is 'fixed', faces q;");
        String[] sorts = {"fixed", "hooded", "half", "water", "ruin"};
        int[] grinds = {10, 10, 5, 5, 0};
        for (int k = 0; k < sorts.length; k++) {
            WindTaken x = Texts.ridgeOf("law 0 0 0; mill " + sorts[k] + " 5 5 1 1 0 99;");
            for (int faces = 0; faces <= 3; faces++) {
                x.face(0, faces);
                for (int q = 0; q <= 3; q++) {
                    int wanted = k == 0 && faces != q ? 0 : grinds[k];
                    e.due(sorts[k] + " facing " + faces + " in wind of " + q, x.made(q, 100, 0), wanted);
                }
            }
        }
    }

    private static void termsTakesIfItTurns() {
        Edge e = Edge.ofTerms("it TAKES, if it TURNS,");
        WindTaken x = Texts.ridgeOf("law 50 0 0; mill hooded 5 5 1 1 0 99; mill fixed 5 4 1 1 0 0;");
        e.due("from one that turns, without corn", x.left(0, 0, 100, 0), 50);
        x.furl(1, 1);
        e.due("from a furled one", x.left(0, 0, 100, 0), 100);
        x.furl(1, 0);
        x.face(1, 2);
        e.due("from one that faces away", x.left(0, 0, 100, 0), 100);
        x = Texts.ridgeOf("law 50 0 0; mill hooded 5 5 1 1 0 99; mill ruin 5 4 9 9 0 99;");
        e.due("from a ruin", x.left(0, 0, 100, 0), 100);
        x = Texts.ridgeOf("law 50 0 0; mill ruin 5 5 1 1 0 99; mill half 5 4 9 9 0 99;");
        e.due("at a ruin", x.left(0, 0, 100, 0), 50);
    }

    private static void termsTakesIfNoWaterOne() {
        Edge e = Edge.ofTerms("and is no water one.");
        WindTaken x = Texts.ridgeOf("law 50 0 0; mill hooded 5 5 1 1 0 99; mill water 5 4 9 1 0 99;");
        e.due("who stands ahead", x.left(0, 0, 100, 1), 2);
        e.due("wind left", x.left(0, 0, 100, 0), 100);
        x.hour(0, 100);
        e.due("it turns, though", x.mill(1, 4), 5);
        e.due("it does not wear", x.mill(1, 5), 0);
    }

    private static void termsStrength() {
        Edge e = Edge.ofTerms("WIND LEFT at a MILL, of strength w (0 to 100): w at first;");
        WindTaken x = Texts.ridgeOf("law 90 0 0; mill hooded 5 5 1 1 0 99;");
        for (int w = 0; w <= 100; w++) {
            e.due("left(0, 0, " + w + ", 0)", x.left(0, 0, w, 0), w);
        }
        e.badFor("left(0, 0, #, 0)", NO_STRENGTHS, w -> x.left(0, 0, w, 0));
    }

    /** Seven ahead of one, of TAKE 0, of 90: 100, 10, 1, and 1 on, as 90 by 100 is cut to 0. */
    private static void termsLessByTake() {
        Edge e = Edge.ofTerms("for each MILL that it stands BEHIND and that TAKES it becomes less by TAKE "
            + "times it by 100.");
        String eight = "mill half 10 10 1 1 0 0;mill half 10 9 1 1 0 0;mill half 10 8 1 1 0 0;mill half 10 7 1 1 0 0;"
            + "mill half 10 6 1 1 0 0;mill half 10 5 1 1 0 0;mill half 10 4 1 1 0 0;mill half 9 9 1 1 0 0;";
        WindTaken x = Texts.ridgeOf("law 90 0 0;" + eight);
        e.due("who stands ahead", x.left(0, 0, 100, 1), 254);
        e.due("90 of 100, seven times", x.left(0, 0, 100, 0), 1);
        e.due("of 0", x.left(0, 0, 0, 0), 0);
        e.due("of 1", x.left(0, 0, 1, 0), 1);
        e.due("of 2: 2 less 1, 1 less 0", x.left(0, 0, 2, 0), 1);
        for (int mill = 1; mill < 8; mill++) {
            x.furl(mill, 1);
        }
        e.due("none takes", x.left(0, 0, 100, 0), 100);
        x.furl(7, 0);
        e.due("one takes", x.left(0, 0, 100, 0), 10);
        x.furl(6, 0);
        e.due("two take", x.left(0, 0, 100, 0), 1);
        e.due("TAKE 0", Texts.ridgeOf("law 0 0 0;" + eight).left(0, 0, 100, 0), 100);
        e.due("TAKE 33: 100, 67, 45, 31, 21, 15, 11, 8", Texts.ridgeOf("law 33 0 0;" + eight).left(0, 0, 100, 0), 8);
    }

    private static void termsGrinds() {
        Edge e = Edge.ofTerms("An HOUR of wind (q, w): each MILL that TURNS GRINDS WIND LEFT times SAILS by 10");
        WindTaken x = Texts.ridgeOf("law 0 0 0; mill hooded 5 5 1 9 0 999; mill hooded 15 15 1 1 0 999;");
        e.due("hour(0, 0)", x.hour(0, 0), 0);
        e.due("hour(0, 1): 9 by 10, 1 by 10", x.hour(0, 1), 0);
        e.due("hour(0, 2): 18 by 10, 2 by 10", x.hour(0, 2), 1);
        e.due("hour(0, 9): 81 by 10, 9 by 10", x.hour(0, 9), 8);
        e.due("hour(0, 10)", x.hour(0, 10), 9 + 1);
        e.due("hour(0, 19): 171 by 10, 19 by 10", x.hour(0, 19), 17 + 1);
        e.due("hour(0, 100)", x.hour(0, 100), 90 + 10);
        e.due("flour of the first", x.mill(0, 4), 1 + 8 + 9 + 17 + 90);
    }

    private static void termsHalfGrinds() {
        Edge e = Edge.ofTerms("(half: by 20;");
        WindTaken x = Texts.ridgeOf("law 0 0 0; mill half 5 5 1 1 0 999; mill half 15 15 1 9 0 999;");
        e.due("made(0, 19): 19 by 20, 171 by 20", x.made(0, 19, 0), 8);
        e.due("made(0, 20)", x.made(0, 20, 0), 1 + 9);
        e.due("made(0, 39): 39 by 20, 351 by 20", x.made(0, 39, 0), 1 + 17);
        e.due("made(0, 100)", x.made(0, 100, 0), 5 + 45);
        e.due("hour(0, 2): 2 by 20, 18 by 20", x.hour(0, 2), 0);
        e.due("hour(0, 3): 3 by 20, 27 by 20", x.hour(0, 3), 1);
    }

    private static void termsWaterGrinds() {
        Edge e = Edge.ofTerms("water: 5 times SAILS, whatever the wind)");
        WindTaken x = Texts.ridgeOf("law 90 0 0; mill water 5 5 1 9 0 999; mill hooded 5 4 9 1 0 0; mill "
            + "water 0 0 1 1 0 999;");
        e.due("hour(0, 0), a calm", x.hour(0, 0), 45 + 5);
        e.due("hour(0, 100), behind another", x.hour(0, 100), 45 + 5);
        e.due("hour(3, 1)", x.hour(3, 1), 45 + 5);
        x.furl(0, 1);
        e.due("hour(0, 0), furled", x.hour(0, 0), 5);
    }

    private static void termsNoMoreThanCorn() {
        Edge e = Edge.ofTerms("but no more than its CORN, which is less by that then, and its FLOUR more;");
        int[] corns = {0, 1, 39, 40, 41, 80, 81};
        for (int corn : corns) {
            WindTaken x = Texts.ridgeOf("law 0 0 0; mill hooded 5 5 1 4 0 " + corn + ";");
            int first = Math.min(corn, 40);
            e.due("hour(0, 100), corn " + corn, x.hour(0, 100), first);
            e.due("corn left of " + corn, x.mill(0, 3), corn - first);
            e.due("flour of " + corn, x.mill(0, 4), first);
            int second = Math.min(corn - first, 40);
            e.due("hour(0, 100), corn " + corn + ", a second one", x.hour(0, 100), second);
            e.due("corn left of " + corn + ", then", x.mill(0, 3), corn - first - second);
            e.due("flour of " + corn + ", then", x.mill(0, 4), first + second);
        }
    }

    private static void termsWear() {
        Edge e = Edge.ofTerms("the WEAR of one that TAKES is WIND LEFT by 10 more.");
        WindTaken x = Texts.ridgeOf("law 50 0 0; mill fixed 5 5 1 1 0 0; mill half 5 6 1 1 0 99;"
            + "mill water 15 15 1 1 0 99; mill ruin 20 20 1 1 0 99;");
        x.hour(0, 9);
        e.due("9 by 10, of one without corn", x.mill(0, 5), 0);
        x.hour(0, 10);
        e.due("10 by 10", x.mill(0, 5), 1);
        e.due("5 by 10", x.mill(1, 5), 0);
        x.hour(0, 19);
        e.due("19 by 10", x.mill(0, 5), 2);
        e.due("10 by 10, of a half one", x.mill(1, 5), 1);
        x.hour(1, 100);
        e.due("it faces away", x.mill(0, 5), 2);
        e.due("nothing is taken from it", x.mill(1, 5), 11);
        x.furl(1, 1);
        x.hour(1, 100);
        e.due("it is furled", x.mill(1, 5), 11);
        e.due("a water one", x.mill(2, 5), 0);
        e.due("a ruin", x.mill(3, 5), 0);
    }

    private static void promise9HowItWas() {
        Edge e = Edge.of(9, "A MILL is furled (1) or not (0) from now on: how it was.");
        WindTaken x = Texts.ridgeOf(THREE);
        for (int mill = 0; mill < 3; mill++) {
            e.due("furl(" + mill + ", 0), it is not", x.furl(mill, 0), 0);
            e.due("furl(" + mill + ", 1)", x.furl(mill, 1), 0);
            e.due("furl(" + mill + ", 1), it is", x.furl(mill, 1), 1);
            e.due("mill(" + mill + ", 7)", x.mill(mill, 7), 1);
            e.due("count(4)", x.count(4), 1);
            e.due("furl(" + mill + ", 0)", x.furl(mill, 0), 1);
            e.due("mill(" + mill + ", 7), no longer", x.mill(mill, 7), 0);
        }
    }

    private static void promise9Bad() {
        Edge e = Edge.of(9, "BAD.");
        WindTaken x = Texts.ridgeOf(THREE);
        e.badFor("furl(#, 1)", NO_MILLS, mill -> x.furl(mill, 1));
        e.badFor("furl(0, #)", new int[] {-1, 2, LEAST, MOST}, is -> x.furl(0, is));
        e.due("none is furled", x.count(4), 0);
    }

    private static void promise10WhichItFaced() {
        Edge e = Edge.of(10, "A MILL faces a quarter from now on: which it faced.");
        WindTaken x = Texts.ridgeOf(THREE);
        int faced = 0;
        for (int q : new int[] {0, 3, 3, 1, 2, 0}) {
            e.due("face(0, " + q + ")", x.face(0, q), faced);
            e.due("mill(0, 6)", x.mill(0, 6), q);
            faced = q;
        }
        e.due("the other does not", x.mill(1, 6), 0);
        x.furl(1, 1);
        e.due("a furled one", x.face(1, 2), 0);
    }

    private static void promise10Bad() {
        Edge e = Edge.of(10, "BAD; STATE");
        WindTaken x = Texts.ridgeOf(THREE);
        e.badFor("face(#, 1)", NO_MILLS, mill -> x.face(mill, 1));
        for (int q : NO_QUARTERS) {
            e.bad("face(0, " + q + ")", x.face(0, q));
            e.bad("face(2, " + q + "), a ruin: ahead of STATE", x.face(2, q));
        }
        e.due("it faces what it did", x.mill(0, 6), 0);
    }

    private static void promise10Ruin() {
        Edge e = Edge.of(10, "STATE: a ruin.");
        WindTaken x = Texts.ridgeOf(THREE);
        for (int q = 0; q <= 3; q++) {
            e.state("face(2, " + q + ")", x.face(2, q));
        }
        e.due("mill(2, 6)", x.mill(2, 6), 0);
    }

    private static void promise11HowMany() {
        Edge e = Edge.of(11, "A MILL has a floor more: how many.");
        WindTaken x = Texts.ridgeOf(THREE);
        for (int floors = 2; floors <= 9; floors++) {
            e.due("build(0)", x.build(0), floors);
            e.due("mill(0, 0)", x.mill(0, 0), floors);
        }
        e.due("the other has one", x.mill(1, 0), 1);
        x = Texts.ridgeOf("law 0 0 0; mill ruin 0 0 8 1 0 0;");
        e.due("a ruin of 8", x.build(0), 9);
    }

    private static void promise11Bad() {
        Edge e = Edge.of(11, "BAD; FULL");
        WindTaken x = Texts.ridgeOf(THREE);
        e.badFor("build(#)", NO_MILLS, mill -> x.build(mill));
    }

    private static void promise11Full() {
        Edge e = Edge.of(11, "FULL: 9.");
        WindTaken x = Texts.ridgeOf("law 0 0 0; mill hooded 0 0 8 1 0 0; mill hooded 9 9 9 1 0 0;");
        e.due("build(0), of 8", x.build(0), 9);
        e.full("build(0), of 9", x.build(0));
        e.due("mill(0, 0)", x.mill(0, 0), 9);
        e.full("build(1), of 9", x.build(1));
    }

    private static void promise12Sacks() {
        Edge e = Edge.of(12, "n sacks (0 to 999) of CORN come to a MILL");
        WindTaken x = Texts.ridgeOf(THREE);
        e.due("bring(0, 0)", x.bring(0, 0), 99);
        e.due("bring(0, 1)", x.bring(0, 1), 100);
        e.due("bring(0, 999)", x.bring(0, 999), 1099);
        e.due("bring(2, 999), to a ruin", x.bring(2, 999), 1098);
        e.due("mill(1, 3)", x.mill(1, 3), 99);
        e.badFor("bring(0, #)", new int[] {-1, 1000, LEAST, MOST}, n -> x.bring(0, n));
        e.due("mill(0, 3)", x.mill(0, 3), 1099);
    }

    private static void promise12AtMost() {
        Edge e = Edge.of(12, ": how much it has (99999 at most).");
        WindTaken x = Texts.ridgeOf("law 0 0 0; mill hooded 0 0 1 1 0 99; mill hooded 9 9 1 1 0 999;");
        for (int k = 1; k <= 100; k++) {
            e.due("bring(0, 999), number " + k, x.bring(0, 999), 99 + 999 * k);
        }
        e.due("it has 99999", x.mill(0, 3), 99999);
        e.due("bring(0, 1)", x.bring(0, 1), 99999);
        e.due("bring(0, 0)", x.bring(0, 0), 99999);
        for (int k = 1; k < 100; k++) {
            x.bring(1, 999);
        }
        e.due("bring(1, 98)", x.bring(1, 98), 99998);
        e.due("bring(1, 999), room for one", x.bring(1, 999), 99999);
        x.hour(0, 100);
        e.due("bring(0, 9), ten were ground", x.bring(0, 9), 99998);
    }

    private static void promise12Bad() {
        Edge e = Edge.of(12, "BAD.");
        WindTaken x = Texts.ridgeOf(THREE);
        e.badFor("bring(#, 1)", NO_MILLS, mill -> x.bring(mill, 1));
    }

    private static void promise13WhatAllGrind() {
        Edge e = Edge.of(13, "An HOUR: what all GRIND.");
        WindTaken x = Texts.ridgeOf(THREE);
        e.due("hour(0, 100)", x.hour(0, 100), 40 + 10);
        e.due("hour(3, 100), one faces away", x.hour(3, 100), 20);
        e.due("hour(0, 0), a calm", x.hour(0, 0), 0);
        e.due("count(2)", x.count(2), 3);
        e.due("hour(0, 100)", x.hour(0, 100), 40 + 10);
        e.due("hour(0, 100), corn 19", x.hour(0, 100), 19 + 10);
        e.due("hour(0, 100), corn 0", x.hour(0, 100), 10);
        e.due("count(3)", x.count(3), 50 + 20 + 50 + 29 + 10);
    }

    private static void promise13Bad() {
        Edge e = Edge.of(13, "BAD; STATE");
        WindTaken x = Texts.ridgeOf(THREE);
        e.badFor("hour(#, 50)", NO_QUARTERS, q -> x.hour(q, 50));
        e.badFor("hour(0, #)", NO_STRENGTHS, w -> x.hour(0, w));
        e.due("count(2)", x.count(2), 0);
    }

    private static void promise13State() {
        Edge e = Edge.of(13, "STATE: no RIDGE (ahead of BAD).");
        WindTaken x = new WindTaken();
        e.state("hour(0, 50)", x.hour(0, 50));
        e.state("hour(4, 50)", x.hour(4, 50));
        e.state("hour(0, 101)", x.hour(0, 101));
        e.due("count(2)", x.count(2), 0);
        Texts.read(x, "law 0 0 0;");
        e.state("hour(0, 50), behind a FAULT", x.hour(0, 50));
    }

    private static void promise14Winds() {
        Edge e = Edge.of(14, "HOURS by a row of winds, 1000 times q and w");
        int[] strengths = {0, 1, 99, 100};
        int[] north = {0, 0, 39 + 10, 40 + 10};
        int[] others = {0, 0, 19, 20};
        for (int q = 0; q <= 3; q++) {
            for (int k = 0; k < strengths.length; k++) {
                String wind = "a wind " + q + ", " + strengths[k];
                WindTaken x = Texts.ridgeOf(THREE);
                WindTaken alike = Texts.ridgeOf(THREE);
                x.row(0, 1, 1);
                x.set(0, 0, 1000 * q + strengths[k]);
                e.due(wind, x.hours(0, 0, 1), q == 0 ? north[k] : others[k]);
                alike.hour(q, strengths[k]);
                e.dueAll(wind + ": as by an HOUR", Texts.seen(x), with1Row(Texts.seen(alike)));
            }
        }
    }

    /** What is seen, with a row there: count(0) stands behind all of the three mills. */
    private static int[] with1Row(int[] seen) {
        seen[33] = 1;
        return seen;
    }

    private static void promise14UpTo24() {
        Edge e = Edge.of(14, ", n of them (1 to 24)");
        WindTaken x = Texts.ridgeOf("law 0 0 0; mill water 5 5 1 1 0 999;");
        x.row(0, 0, 40);
        e.due("hours(0, 0, 1)", x.hours(0, 0, 1), 5);
        e.due("count(2)", x.count(2), 1);
        e.due("hours(0, 0, 24)", x.hours(0, 0, 24), 120);
        e.due("count(2)", x.count(2), 25);
        e.badFor("hours(0, 0, #)", new int[] {0, 25, -1, LEAST, MOST}, n -> x.hours(0, 0, n));
        e.due("count(2)", x.count(2), 25);
    }

    private static void promise14FromIOn() {
        Edge e = Edge.of(14, "ITEMS of a ROW from i on: what all GRIND.");
        WindTaken x = Texts.ridgeOf("law 0 0 0; mill hooded 5 5 1 1 0 25;");
        Texts.rowOf(x, 10, 20, 30, 100);
        e.due("hours(0, 1, 2), the second and the third", x.hours(0, 1, 2), 2 + 3);
        e.due("hours(0, 3, 1), the last", x.hours(0, 3, 1), 10);
        e.due("hours(0, 0, 4), its corn is 10", x.hours(0, 0, 4), 1 + 2 + 3 + 4);
        e.due("hours(0, 0, 4), its corn is 0", x.hours(0, 0, 4), 0);
        e.due("wear, hour by hour", x.mill(0, 5), 2 + 3 + 10 + 16 + 16);
        e.due("count(2)", x.count(2), 11);
    }

    private static void promise14Bad() {
        Edge e = Edge.of(14, "BAD: ROW, n;");
        WindTaken x = Texts.ridgeOf(THREE);
        x.row(0, 0, 40);
        e.badFor("hours(#, 0, 1)", new int[] {-1, 8, LEAST, MOST}, row -> x.hours(row, 0, 1));
        for (int n : new int[] {-1, 0, 25, LEAST, MOST}) {
            e.bad("hours(0, 0, " + n + ")", x.hours(0, 0, n));
            e.bad("hours(1, 0, " + n + "), ahead of NULL", x.hours(1, 0, n));
            e.bad("hours(0, 40, " + n + "), ahead of PLACE", x.hours(0, 40, n));
        }
        e.due("count(2)", x.count(2), 0);
    }

    private static void promise14State() {
        Edge e = Edge.of(14, "STATE: no RIDGE (ahead of BAD);");
        WindTaken x = new WindTaken();
        x.row(0, 2, 1);
        e.state("hours(0, 0, 1)", x.hours(0, 0, 1));
        e.state("hours(8, 0, 1)", x.hours(8, 0, 1));
        e.state("hours(0, 0, 25)", x.hours(0, 0, 25));
        e.state("hours(1, 0, 1), ahead of NULL", x.hours(1, 0, 1));
        e.state("hours(0, 1, 1), ahead of PLACE", x.hours(0, 1, 1));
        e.due("status()", x.status(), 0);
    }

    private static void promise14Null() {
        Edge e = Edge.of(14, "NULL; PLACE");
        WindTaken x = Texts.ridgeOf(THREE);
        e.isNull("hours(0, 0, 1)", x.hours(0, 0, 1));
        e.isNull("hours(0, -1, 1), ahead of PLACE", x.hours(0, -1, 1));
        e.due("count(2)", x.count(2), 0);
    }

    private static void promise14Place() {
        Edge e = Edge.of(14, "PLACE; then");
        WindTaken x = Texts.ridgeOf(THREE);
        Texts.rowOf(x, 0, 0, 9999);
        for (int i : new int[] {-1, 3, LEAST, MOST}) {
            e.place("hours(0, " + i + ", 1)", x.hours(0, i, 1));
        }
        e.place("hours(0, 2, 2), ahead of an ITEM that is no wind", x.hours(0, 2, 2));
        e.place("hours(0, 0, 4)", x.hours(0, 0, 4));
        e.place("hours(0, -1, 2)", x.hours(0, -1, 2));
        x.row(1, 2, 0);
        e.place("hours(1, 0, 1), of none", x.hours(1, 0, 1));
        e.due("count(2)", x.count(2), 0);
        e.due("hours(0, 0, 2), up to the end of winds", x.hours(0, 0, 2), 0);
    }

    private static void promise14NoWind() {
        Edge e = Edge.of(14, "then BAD: an ITEM that is no wind.");
        WindTaken x = Texts.ridgeOf(THREE);
        x.row(0, 2, 3);
        int[] noWinds = {-1, -100, -999, -1000, -1100, 101, 999, 1101, 1999, 2101, 2999, 3101, 3999, 4000, 4001,
            4100, LEAST, MOST};
        for (int item : noWinds) {
            x.set(0, 0, 100);
            x.set(0, 2, item);
            x.drop(7);
            e.bad("hours(0, 2, 1) of " + item, x.hours(0, 2, 1));
            e.bad("hours(0, 0, 3) of 100, 0, " + item, x.hours(0, 0, 3));
            e.due("status()", x.status(), 1);
        }
        e.due("no HOUR went by", x.count(2), 0);
        e.due("nothing was ground", x.count(3), 0);
        e.due("hours(0, 0, 2), the winds ahead of it", x.hours(0, 0, 2), 50);
        x.row(1, 0, 1);
        x.set(1, 0, 228);
        e.bad("a byte below 0", x.hours(1, 0, 1));
    }

    private static void promise15OfAMill() {
        Edge e = Edge.of(15, "Of a MILL: 0 FLOORS, 1 SAILS, 2 AGE, 3 CORN, 4 FLOUR, 5 WEAR, 6 the quarter it faces, "
            + "7 whether furled (1, 0), 8 X, 9 Y.");
        WindTaken x = Texts.ridgeOf("law 0 0 0; mill half 3 4 5 6 77 100; mill water 20 19 9 1 99 999;");
        x.face(0, 2);
        x.hour(0, 100);
        x.furl(0, 1);
        int[] first = {5, 6, 77, 70, 30, 10, 2, 1, 3, 4};
        int[] second = {9, 1, 99, 994, 5, 0, 0, 0, 20, 19};
        for (int what = 0; what <= 9; what++) {
            e.due("mill(0, " + what + ")", x.mill(0, what), first[what]);
            e.due("mill(1, " + what + ")", x.mill(1, what), second[what]);
        }
    }

    private static void promise15Bad() {
        Edge e = Edge.of(15, "BAD.");
        WindTaken x = Texts.ridgeOf(THREE);
        e.badFor("mill(#, 0)", NO_MILLS, mill -> x.mill(mill, 0));
        e.badFor("mill(0, #)", new int[] {-1, 10, LEAST, MOST}, what -> x.mill(0, what));
    }

    private static void promise16WindLeft() {
        Edge e = Edge.of(16, "WIND LEFT at a MILL (what = 0)");
        WindTaken x = Texts.ridgeOf(THREE);
        e.due("left(1, 0, 100, 0)", x.left(1, 0, 100, 0), 50);
        e.due("left(1, 0, 0, 0)", x.left(1, 0, 0, 0), 0);
        e.due("left(1, 0, 1, 0)", x.left(1, 0, 1, 0), 1);
        x.furl(1, 1);
        e.due("at a furled one", x.left(1, 0, 100, 0), 50);
        e.due("at a ruin", x.left(2, 0, 100, 0), 100);
        x.face(0, 1);
        e.due("one ahead faces away", x.left(1, 0, 100, 0), 100);
    }

    private static void promise16Behind() {
        Edge e = Edge.of(16, "which MILLS it stands BEHIND (1: bits; w, 0 to 100 all the same, does not count).");
        WindTaken x = Texts.ridgeOf(THREE);
        for (int w : new int[] {0, 1, 99, 100}) {
            e.due("left(1, 0, " + w + ", 1)", x.left(1, 0, w, 1), 1);
            e.due("left(0, 0, " + w + ", 1)", x.left(0, 0, w, 1), 0);
            e.due("left(0, 2, " + w + ", 1)", x.left(0, 2, w, 1), 2);
        }
        e.badFor("left(1, 0, #, 1)", NO_STRENGTHS, w -> x.left(1, 0, w, 1));
        x.furl(0, 1);
        e.due("behind a furled one", x.left(1, 0, 0, 1), 1);
        WindTaken eight = Texts.ridgeOf("law 0 0 0;mill ruin 0 0 1 1 0 0;mill ruin 1 0 1 1 0 0;mill ruin 2 0 1 1 0 0;"
            + "mill ruin 3 0 1 1 0 0;mill ruin 4 0 1 1 0 0;mill ruin 5 0 1 1 0 0;mill ruin 6 0 1 1 0 0;"
            + "mill ruin 6 1 1 1 0 0;");
        e.due("all but itself and one at its side", eight.left(7, 3, 0, 1), 1 | 2 | 4 | 8 | 16 | 32);
        e.due("the highest bit", eight.left(0, 1, 0, 1), 2 | 4 | 8 | 16 | 32 | 64 | 128);
    }

    private static void promise16Bad() {
        Edge e = Edge.of(16, "BAD.");
        WindTaken x = Texts.ridgeOf(THREE);
        e.badFor("left(#, 0, 0, 0)", NO_MILLS, mill -> x.left(mill, 0, 0, 0));
        e.badFor("left(0, #, 0, 0)", NO_QUARTERS, q -> x.left(0, q, 0, 0));
        e.badFor("left(0, 0, #, 0)", NO_STRENGTHS, w -> x.left(0, 0, w, 0));
        e.badFor("left(0, 0, 0, #)", new int[] {-1, 2, LEAST, MOST}, what -> x.left(0, 0, 0, what));
    }
}
