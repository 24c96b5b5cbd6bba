/** The sentences on what is foretold that name a boundary case: Terms 3, promises 17 to 24. */
final class ForetoldEdges {
    private static final int LEAST = Integer.MIN_VALUE;
    private static final int MOST = Integer.MAX_VALUE;
    private static final int[] NO_QUARTERS = {-1, 4, LEAST, MOST};
    private static final int[] NO_STRENGTHS = {-1, 101, LEAST, MOST};
    private static final int[] NO_MILLS = {-1, 3, 8, LEAST, MOST};
    /** Three behind one another from the north: by 100 of wind they grind 40, 25, 11. */
    private static final String THREE = "law 50 20 5; mill hooded 5 5 3 4 10 900;"
        + "mill hooded 5 7 3 5 40 900; mill half 5 9 3 9 60 900;";

    private ForetoldEdges() {
    }

    static void run() {
        termsNothingChanges();
        termsCornAsItIs();
        termsBesideThoseThatAre();
        termsMadeIsMost();
        termsFewestMills();
        termsLeastAsBits();
        termsPartOfLoss();
        termsPartIfNoLess();
        termsPartOfMill0();
        termsMoreThanG();
        termsStill();
        termsDeal();
        termsNineAtMost();
        termsOthersLose();
        termsFelled();
        termsOwesOneThatTakes();
        termsOwesOneOfMoreAge();
        termsOwesOneBehind();
        termsOwesDueTimes();
        termsNightOfThoseNotFurled();
        termsNightEachGroundInAll();
        termsNightTheLeastFirst();
        termsYears();
        termsYearsWithCornWithoutEnd();
        promise17Set();
        promise17Bad();
        promise17State();
        promise18Furl();
        promise18Bad();
        promise18State();
        promise19Part();
        promise19Bad();
        promise20Still();
        promise20Bad();
        promise20Alike();
        promise21Higher();
        promise21Bad();
        promise22Owes();
        promise22Bad();
        promise22Alike();
        promise23UpTo24();
        promise23HowMany();
        promise23NotSoMany();
        promise23Bad();
        promise23State();
        promise23Null();
        promise23Place();
        promise24Flour();
        promise24Bad();
        promise24State();
    }

    private static void termsNothingChanges() {
        Edge e = Edge.ofTerms("FORETOLD (nothing changes)");
        WindTaken x = Texts.ridgeOf("law 50 20 5; mill hooded 5 5 8 1 10 90; mill fixed 5 7 9 9 40 90;");
        x.hour(0, 50);
        x.furl(1, 1);
        x.ask(0, 0);
        Texts.rowOf(x, 5, 0);
        int[] before = Texts.seen(x);
        x.made(0, 100, 3);
        x.best(0, 100, 0);
        x.best(0, 100, 1);
        x.part(0, 100, 1);
        for (int what = 0; what <= 2; what++) {
            x.still(0, 100, 0, 1, what);
            x.higher(0, 100, 0, what);
        }
        x.owes(0, 100, 0, 1);
        x.night(0, 100, 24, 0, -1);
        x.night(0, 100, 24, 0, 0);
        x.years(1000, 1, -1);
        x.years(1000, 1, 1);
        e.dueAll("behind all that foretells", Texts.seen(x), before);
        e.holds("the ROW's items stay", Texts.begins(x, 0, 5, 0));
    }

    private static void termsCornAsItIs() {
        Edge e = Edge.ofTerms("of one HOUR (q, w), with CORN as it is.");
        String front = "law 50 50 0; mill hooded 5 5 1 1 0 900; mill hooded 5 6 1 9 9 ";
        for (int corn : new int[] {0, 44, 45, 46, 89, 90, 91}) {
            WindTaken x = Texts.ridgeOf(front + corn + ";");
            int now = Math.min(corn, 45);
            int then = Math.min(corn, 90);
            e.due("made(0, 100, 0), corn " + corn, x.made(0, 100, 0), 10 + now);
            e.due("made(0, 100, 1), corn " + corn, x.made(0, 100, 1), then);
            e.due("best(0, 100, 0), corn " + corn, x.best(0, 100, 0), Math.max(10 + now, then));
            e.due("still(0, 100, 0, 1, 0), corn " + corn, x.still(0, 100, 0, 1, 0), then - now);
            e.due("higher(0, 100, 1, 0), corn " + corn, x.higher(0, 100, 1, 0), then - now);
            e.due("higher(0, 100, 0, 2), corn " + corn, x.higher(0, 100, 0, 2), then - now);
            e.due("owes(0, 100, 0, 1), corn " + corn, x.owes(0, 100, 0, 1), (then - now) / 2);
        }
        WindTaken x = Texts.ridgeOf(front + "50;");
        x.hour(0, 100);
        e.due("an HOUR later 5 are left", x.made(0, 100, 0), 10 + 5);
        x.bring(1, 1);
        e.due("one more came", x.made(0, 100, 0), 10 + 6);
    }

    private static void termsBesideThoseThatAre() {
        Edge e = Edge.ofTerms("MADE: what all GRIND, a set of MILLS furled beside those that are.");
        WindTaken x = Texts.ridgeOf(THREE);
        int[] wanted = {40 + 25 + 11, 50 + 22, 40 + 22, 45, 40 + 25, 50, 40, 0};
        for (int set = 0; set < 8; set++) {
            e.due("made(0, 100, " + set + ")", x.made(0, 100, set), wanted[set]);
        }
        x.furl(1, 1);
        for (int set = 0; set < 8; set++) {
            e.due("made(0, 100, " + set + "), 1 is furled", x.made(0, 100, set), wanted[set | 2]);
        }
    }

    private static void termsMadeIsMost() {
        Edge e = Edge.ofTerms("FURL: the set by which MADE is most");
        for (int corn = 54; corn <= 57; corn++) {
            WindTaken x = Texts.ridgeOf("law 50 0 0; mill hooded 5 6 1 9 0 " + corn + "; mill hooded 5 5 1 1 0 99;");
            int set = corn > 55 ? 2 : 0;
            e.due("best(0, 100, 1), 55 or " + corn, x.best(0, 100, 1), set);
            e.due("best(0, 100, 0), 55 or " + corn, x.best(0, 100, 0), Math.max(55, corn));
        }
        WindTaken x = Texts.ridgeOf("law 90 0 0;mill hooded 5 1 1 9 0 999;mill ruin 1 20 1 1 0 0;mill ruin "
            + "2 20 1 1 0 0;"
            + "mill ruin 3 20 1 1 0 0;mill ruin 4 20 1 1 0 0;mill ruin 6 20 1 1 0 0;mill ruin 7 20 1 1 0 0;"
            + "mill hooded 5 0 1 1 0 99;");
        e.due("the highest bit alone", x.best(0, 100, 1), 128);
        e.due("made by it", x.best(0, 100, 0), 90);
    }

    private static void termsFewestMills() {
        Edge e = Edge.ofTerms(", of several that of fewest MILLS");
        WindTaken x = Texts.ridgeOf("law 50 0 0; mill hooded 5 5 1 2 0 99; mill hooded 5 6 1 4 0 99;");
        e.due("made(0, 100, 0)", x.made(0, 100, 0), 20 + 20);
        e.due("made(0, 100, 1), as much", x.made(0, 100, 1), 40);
        e.due("best(0, 100, 1), none ahead of one", x.best(0, 100, 1), 0);
        x = Texts.ridgeOf("law 50 0 0; mill hooded 3 6 1 1 0 0; mill hooded 7 6 1 1 0 0;"
            + "mill hooded 5 5 1 1 0 0; mill hooded 4 7 1 9 0 45; mill hooded 6 7 1 9 0 45;");
        e.due("made(0, 100, 3), two furled", x.made(0, 100, 3), 90);
        e.due("made(0, 100, 4), one furled", x.made(0, 100, 4), 90);
        e.due("made(0, 100, 7), three", x.made(0, 100, 7), 90);
        e.due("best(0, 100, 1), one ahead of two, though 3 is less than 4", x.best(0, 100, 1), 4);
        x = Texts.ridgeOf("law 50 0 0; mill ruin 5 5 1 2 0 99; mill hooded 5 6 1 4 0 0;");
        e.due("best(0, 100, 1), nobody grinds", x.best(0, 100, 1), 0);
        e.due("best(0, 100, 0), nobody grinds", x.best(0, 100, 0), 0);
    }

    private static void termsLeastAsBits() {
        Edge e = Edge.ofTerms(", then the least as bits: MADE, the set.");
        WindTaken x = Texts.ridgeOf("law 50 0 0; mill hooded 5 7 1 9 0 45; mill hooded 4 5 1 1 0 99; mill "
            + "hooded 6 5 1 1 0 99;");
        e.due("made(0, 100, 2)", x.made(0, 100, 2), 10 + 45);
        e.due("made(0, 100, 4)", x.made(0, 100, 4), 10 + 45);
        e.due("best(0, 100, 1), the set", x.best(0, 100, 1), 2);
        e.due("best(0, 100, 0), MADE", x.best(0, 100, 0), 55);
        x.furl(1, 1);
        e.due("best(0, 100, 1), one of the two is furled", x.best(0, 100, 1), 0);
        e.due("best(0, 100, 0), as much", x.best(0, 100, 0), 55);
    }

    private static void termsPartOfLoss() {
        Edge e = Edge.ofTerms("PART: by the set of FURL g more is MADE than without it: "
            + "of g each MILL gets what it GRINDS less by that set than without it");
        WindTaken x = Texts.ridgeOf("law 50 0 0; mill hooded 20 20 1 1 0 0; mill hooded 5 5 1 1 0 8; mill "
            + "hooded 5 6 1 9 0 99;");
        e.due("best(0, 100, 1)", x.best(0, 100, 1), 2);
        e.due("part(0, 100, 1), its corn is 8", x.part(0, 100, 1), 8);
        e.due("part(0, 100, 2)", x.part(0, 100, 2), 0);
        e.due("part(0, 100, 0), 90 less 53, less 8", x.part(0, 100, 0), 37 - 8);
        e.due("part(2, 100, 1), nothing more is MADE", x.part(2, 100, 1), 0);
        e.due("part(2, 100, 0), nothing more is MADE", x.part(2, 100, 0), 0);
    }

    private static void termsPartIfNoLess() {
        Edge e = Edge.ofTerms("(0, if no less)");
        WindTaken x = Texts.ridgeOf("law 50 0 0; mill hooded 20 20 1 1 0 0; mill hooded 5 5 1 1 0 8;"
            + "mill hooded 5 6 1 9 0 99; mill hooded 12 12 1 4 0 99; mill half 5 7 9 9 0 99;");
        e.due("best(0, 100, 1)", x.best(0, 100, 1), 2);
        e.due("one that gains", x.part(0, 100, 2), 0);
        e.due("one of which nothing changes", x.part(0, 100, 3), 0);
        e.due("one that grinds as much", x.part(0, 100, 4), 0);
    }

    private static void termsPartOfMill0() {
        Edge e = Edge.ofTerms(", and MILL 0 all that is left, too;");
        WindTaken x = Texts.ridgeOf("law 50 0 0; mill hooded 5 5 1 1 0 99; mill hooded 5 6 1 9 0 99;");
        e.due("what it loses and what is left: 90 less 55", x.part(0, 100, 0), 35);
        e.due("the other", x.part(0, 100, 1), 0);
        x = Texts.ridgeOf("law 50 0 0; mill hooded 5 6 1 9 0 99; mill hooded 5 5 1 1 0 99;");
        e.due("what is left alone", x.part(0, 100, 0), 35 - 10);
        e.due("what the other loses", x.part(0, 100, 1), 10);
        x = Texts.ridgeOf("law 50 0 0; mill hooded 5 6 1 8 0 80; mill hooded 5 5 1 2 0 99;");
        e.due("nothing is left: g 20, less 20", x.part(0, 100, 0), 0);
        e.due("all of g", x.part(0, 100, 1), 20);
    }

    private static void termsMoreThanG() {
        Edge e = Edge.ofTerms("NONE: that is more than g.");
        for (int corn = 61; corn <= 81; corn++) {
            WindTaken x = Texts.ridgeOf("law 50 0 0; mill hooded 5 6 1 8 0 " + corn + "; mill hooded 5 5 1 2 0 99;");
            boolean none = corn < 80;
            String call = "g is " + (Math.min(corn, 80) - 60) + ", the second loses 20: ";
            e.due(call + "part(0, 100, 0)", x.part(0, 100, 0), none ? WindTaken.NONE : 0);
            e.due(call + "part(0, 100, 1)", x.part(0, 100, 1), none ? WindTaken.NONE : 20);
        }
        WindTaken x = Texts.ridgeOf("law 50 0 0; mill hooded 5 6 1 8 0 60; mill hooded 5 5 1 2 0 99;");
        e.due("g is 0, nobody furls", x.part(0, 100, 1), 0);
    }

    private static void termsStill() {
        Edge e = Edge.ofTerms("STILL: a MILL furled for another one: how much more that GRINDS, how much "
            + "less it does itself;");
        WindTaken x = Texts.ridgeOf(THREE);
        e.due("what 1 gains by 0", x.still(0, 100, 0, 1, 0), 50 - 25);
        e.due("what 0 loses", x.still(0, 100, 0, 1, 1), 40);
        e.due("what 0 gains by 1, ahead of which it stands", x.still(0, 100, 1, 0, 0), 0);
        x.furl(0, 1);
        e.due("what 1 gains by a furled one", x.still(0, 100, 0, 1, 0), 0);
        e.due("what a furled one loses", x.still(0, 100, 0, 1, 1), 0);
        x.furl(0, 0);
        x.furl(1, 1);
        e.due("what a furled one gains", x.still(0, 100, 0, 1, 0), 0);
        e.due("what 0 loses for it", x.still(0, 100, 0, 1, 1), 40);
    }

    private static void termsDeal() {
        Edge e = Edge.ofTerms("they deal, if the first is PRICE or more above the second.");
        String two = "; mill hooded 5 6 1 5 0 99; mill hooded 5 5 1 1 0 99;";
        for (int price : new int[] {0, 14, 15, 16, 99}) {
            WindTaken x = Texts.ridgeOf("law 50 0 " + price + two);
            e.due("25 and 10, PRICE " + price, x.still(0, 100, 1, 0, 2), price <= 15 ? 1 : 0);
        }
        for (int corn = 34; corn <= 36; corn++) {
            WindTaken x = Texts.ridgeOf("law 50 0 0; mill hooded 5 6 1 5 0 " + corn + "; mill hooded 5 5 1 1 0 99;");
            e.due((corn - 25) + " and 10, PRICE 0", x.still(0, 100, 1, 0, 2), corn >= 35 ? 1 : 0);
        }
        WindTaken x = Texts.ridgeOf("law 50 0 0" + two);
        x.furl(1, 1);
        e.due("0 and 0, PRICE 0", x.still(0, 100, 1, 0, 2), 1);
        x = Texts.ridgeOf("law 50 0 1" + two);
        x.furl(1, 1);
        e.due("0 and 0, PRICE 1", x.still(0, 100, 1, 0, 2), 0);
    }

    private static void termsNineAtMost() {
        Edge e = Edge.ofTerms("HIGHER: a floor more for a MILL (9 at most): how much more it GRINDS");
        WindTaken x = Texts.ridgeOf("law 50 0 0; mill hooded 5 6 8 4 0 99; mill hooded 5 5 8 1 0 99;");
        e.due("8 behind 8, 9 behind 8", x.higher(0, 100, 0, 0), 20);
        x.build(1);
        e.due("8 behind 9, 9 behind 9", x.higher(0, 100, 0, 0), 0);
        x.build(0);
        e.due("9 behind 9, 9 at most", x.higher(0, 100, 0, 0), 0);
        e.due("no FLOORS came", x.mill(0, 0), 9);
        x.furl(0, 1);
        e.due("a furled one", x.higher(0, 100, 0, 0), 0);
        x = Texts.ridgeOf("law 50 0 0; mill hooded 5 6 1 4 0 99; mill hooded 5 5 2 1 0 99; mill hooded 5 4 1 1 0 99;");
        e.due("one of two no longer takes", x.higher(0, 100, 0, 0), 20 - 10);
    }

    private static void termsOthersLose() {
        Edge e = Edge.ofTerms(", how much less all others do together.");
        WindTaken x = Texts.ridgeOf("law 50 0 0; mill hooded 5 5 8 1 0 99; mill hooded 5 6 9 4 0 99; mill "
            + "half 5 7 9 8 0 99;");
        e.due("8 ahead of 9 and 9, 9 ahead of both", x.higher(0, 100, 0, 1), 40 - 20 + 20 - 10);
        e.due("what it gains itself", x.higher(0, 100, 0, 0), 0);
        x.build(0);
        e.due("9 at most, none loses", x.higher(0, 100, 0, 1), 0);
        e.due("nobody behind", x.higher(0, 100, 2, 1), 0);
        x = Texts.ridgeOf("law 50 0 0; mill water 5 5 8 1 0 99; mill hooded 5 6 9 4 0 99;");
        e.due("a water one takes nothing", x.higher(0, 100, 0, 1), 0);
        x = Texts.ridgeOf("law 50 0 0; mill hooded 5 5 7 1 0 99; mill hooded 5 6 9 4 0 99;");
        e.due("8 ahead of 9", x.higher(0, 100, 0, 1), 0);
    }

    private static void termsFelled() {
        Edge e = Edge.ofTerms("FELLED: a MILL furled: how much more all others GRIND together.");
        WindTaken x = Texts.ridgeOf(THREE);
        e.due("the first: 50 less 25, 22 less 11", x.higher(0, 100, 0, 2), 25 + 11);
        e.due("the second: 22 less 11", x.higher(0, 100, 1, 2), 11);
        e.due("the last", x.higher(0, 100, 2, 2), 0);
        x.furl(0, 1);
        e.due("one that is furled", x.higher(0, 100, 0, 2), 0);
        x = Texts.ridgeOf("law 50 0 0; mill water 5 5 9 1 0 99; mill hooded 5 6 1 4 0 99; mill ruin 5 4 9 9 0 9;");
        e.due("a water one", x.higher(0, 100, 0, 2), 0);
        e.due("a ruin", x.higher(0, 100, 2, 2), 0);
        x = Texts.ridgeOf("law 50 0 0; mill hooded 5 5 1 9 0 99; mill hooded 5 6 1 9 0 45;");
        e.due("their corn ends", x.higher(0, 100, 0, 2), 0);
    }

    private static void termsOwesOneThatTakes() {
        Edge e = Edge.ofTerms("OWED by age: a MILL that TAKES owes");
        String[] sorts = {"fixed", "hooded", "half", "water", "ruin"};
        int[] wanted = {10, 10, 10, 0, 0};
        for (int k = 0; k < sorts.length; k++) {
            WindTaken x = Texts.ridgeOf("law 50 50 0; mill " + sorts[k] + " 5 5 9 1 0 99; mill hooded 5 6 1 4 9 99;");
            e.due(sorts[k], x.owes(0, 100, 0, 1), wanted[k]);
            x.furl(0, 1);
            e.due(sorts[k] + ", furled", x.owes(0, 100, 0, 1), 0);
        }
        WindTaken x = Texts.ridgeOf("law 50 50 0; mill fixed 5 5 9 1 0 99; mill hooded 5 6 1 4 9 99;");
        x.face(0, 1);
        e.due("a fixed one that faces away", x.owes(0, 100, 0, 1), 0);
    }

    private static void termsOwesOneOfMoreAge() {
        Edge e = Edge.ofTerms("one of more AGE");
        for (int age : new int[] {0, 49, 50, 51, 99}) {
            WindTaken x = Texts.ridgeOf("law 50 50 0; mill hooded 5 5 1 1 50 99; mill hooded 5 6 1 4 " + age + " 99;");
            e.due("50 and " + age, x.owes(0, 100, 0, 1), age > 50 ? 10 : 0);
        }
    }

    private static void termsOwesOneBehind() {
        Edge e = Edge.ofTerms("that stands BEHIND it");
        WindTaken x = Texts.ridgeOf("law 50 50 0; mill hooded 5 5 2 1 0 99; mill hooded 5 11 2 4 9 99;"
            + "mill hooded 5 12 2 4 9 99; mill hooded 6 10 3 4 9 99; mill hooded 7 7 2 4 9 99; mill hooded "
            + "5 4 2 4 9 99;");
        int[] wanted = {0, 5, 0, 0, 0, 0};
        for (int b = 1; b <= 5; b++) {
            e.due("owes(0, 100, 0, " + b + ")", x.owes(0, 100, 0, b), wanted[b]);
        }
    }

    private static void termsOwesDueTimes() {
        Edge e = Edge.ofTerms("DUE times (what that would GRIND, if this were furled, less what it GRINDS) "
            + "by 100; others nothing.");
        int[] dues = {0, 1, 2, 4, 5, 9, 10, 49, 50};
        int[] wanted = {0, 0, 0, 0, 1, 1, 2, 9, 10};
        for (int k = 0; k < dues.length; k++) {
            WindTaken x = Texts.ridgeOf("law 50 " + dues[k] + " 0; mill hooded 5 5 1 1 0 99; mill hooded 5 "
                + "6 1 4 9 99;");
            e.due(dues[k] + " times 20 by 100", x.owes(0, 100, 0, 1), wanted[k]);
        }
        e.due("11 times 9 by 100", Texts.ridgeOf("law 50 11 0; mill hooded 5 5 1 1 0 99; mill hooded 5 6 1 4 9 29;")
            .owes(0, 100, 0, 1), 0);
        WindTaken x = Texts.ridgeOf("law 50 50 0; mill hooded 5 5 1 1 0 99; mill hooded 5 6 1 4 9 21;");
        e.due("its corn lets it grind 1 more: 50 by 100", x.owes(0, 100, 0, 1), 0);
        x.bring(1, 1);
        e.due("2 more: 100 by 100", x.owes(0, 100, 0, 1), 1);
        x.furl(1, 1);
        e.due("a furled one would grind no more", x.owes(0, 100, 0, 1), 0);
    }

    private static void termsNightOfThoseNotFurled() {
        Edge e = Edge.ofTerms("BY NIGHT: n HOURS of the same wind, in which some of the MILLS that are not "
            + "furled were:");
        WindTaken x = Texts.ridgeOf(THREE);
        x.furl(1, 1);
        Texts.rowOf(x, 0, 0, 45);
        e.due("how many", x.night(0, 100, 1, 0, -1), 1);
        e.due("the one that is furled is none of them", x.night(0, 100, 1, 0, 0), 1);
        Texts.rowOf(x, 40, 0, 22);
        e.due("none of them furled", x.night(0, 100, 1, 0, 0), 0);
        Texts.rowOf(x, 0, 0, 0);
        e.due("all of them furled", x.night(0, 100, 1, 0, 0), 1 | 4);
        Texts.rowOf(x, 40, 25, 11);
        e.due("as if it were not furled", x.night(0, 100, 1, 0, -1), 0);
        for (int mill = 0; mill < 3; mill++) {
            x.furl(mill, 1);
        }
        Texts.rowOf(x, 0, 0, 0);
        e.due("all are furled: the set of none", x.night(0, 100, 1, 0, 0), 0);
        e.due("it alone", x.night(0, 100, 1, 0, -1), 1);
    }

    private static void termsNightEachGroundInAll() {
        Edge e = Edge.ofTerms("a row of what each ground in all: sets (bits) of these by which each would have:");
        WindTaken x = Texts.ridgeOf("law 0 0 0; mill hooded 5 5 1 1 0 25; mill hooded 15 15 1 2 0 900;");
        int[] hours = {1, 2, 3, 24};
        int[] first = {10, 20, 25, 25};
        int[] second = {20, 40, 60, 480};
        for (int k = 0; k < hours.length; k++) {
            Texts.rowOf(x, first[k], second[k]);
            e.due("in " + hours[k], x.night(0, 100, hours[k], 0, 0), 0);
            Texts.rowOf(x, first[k], 0);
            e.due("in " + hours[k] + ", one furled", x.night(0, 100, hours[k], 0, 0), 2);
            Texts.rowOf(x, first[k] + 1, second[k]);
            e.due("one more than that", x.night(0, 100, hours[k], 0, -1), 0);
            Texts.rowOf(x, first[k], second[k] - 1);
            e.due("one less than that", x.night(0, 100, hours[k], 0, -1), 0);
        }
        Texts.rowOf(x, -10, 20);
        e.due("less than none", x.night(0, 100, 1, 0, -1), 0);
        Texts.rowOf(x, 10, 20, 999, -1);
        e.due("ITEMS behind all MILLS do not count", x.night(0, 100, 1, 0, -1), 1);
    }

    private static void termsNightTheLeastFirst() {
        Edge e = Edge.ofTerms("how many, the i-th, the least first.");
        WindTaken x = Texts.ridgeOf("law 0 0 0; mill ruin 0 0 1 1 0 9; mill hooded 9 9 1 5 0 90; mill half "
            + "20 20 1 5 0 0;");
        Texts.rowOf(x, 0, 50, 0);
        int[] wanted = {0, 1, 4, 5};
        e.due("how many", x.night(0, 100, 1, 0, -1), wanted.length);
        for (int i = 0; i < wanted.length; i++) {
            e.due("number " + i, x.night(0, 100, 1, 0, i), wanted[i]);
        }
        e.none("number 4", x.night(0, 100, 1, 0, 4));
        x = Texts.ridgeOf("law 0 0 0;mill ruin 0 0 1 1 0 9;mill ruin 1 0 1 1 0 9;mill ruin 2 0 1 1 0 9;"
            + "mill ruin 3 0 1 1 0 9;"
            + "mill ruin 4 0 1 1 0 9;mill ruin 5 0 1 1 0 9;mill ruin 6 0 1 1 0 9;mill ruin 7 0 1 1 0 9;");
        x.row(0, 0, 8);
        e.due("how many of eight ruins", x.night(0, 100, 1, 0, -1), 256);
        e.due("number 255", x.night(0, 100, 1, 0, 255), 255);
        e.none("number 256", x.night(0, 100, 1, 0, 256));
    }

    /** From X 1: 16807, 282475249, 1622650073, 984943658, so winds (3, 65), (1, 41). */
    private static void termsYears() {
        Edge e = Edge.ofTerms("YEARS: n HOURS (1 to 1000) by X: X becomes the rest of (X times 16807) by 2147483647: "
            + "q is the rest of X by 4; X anew: w the rest by 101:");
        WindTaken x = Texts.ridgeOf("law 0 0 0; mill fixed 5 5 1 1 0 99; mill hooded 9 9 1 1 0 99;");
        long seed = 1;
        int[] ofHooded = new int[4];
        int[] ofFixed = new int[4];
        for (int n = 1; n <= 4; n++) {
            seed = seed * 16807 % 2147483647L;
            int q = (int) (seed % 4);
            seed = seed * 16807 % 2147483647L;
            int w = (int) (seed % 101);
            for (int k = n; k <= 4; k++) {
                ofHooded[k - 1] += w / 10;
                ofFixed[k - 1] += q == 1 ? w / 10 : 0;
            }
        }
        x.face(0, 1);
        for (int n = 1; n <= 4; n++) {
            e.due("years(" + n + ", 1, 1)", x.years(n, 1, 1), ofHooded[n - 1]);
            e.due("years(" + n + ", 1, 0), facing east", x.years(n, 1, 0), ofFixed[n - 1]);
        }
        e.due("65 by 10", x.years(1, 1, 1), 6);
        e.due("65 by 10 and 41 by 10", x.years(2, 1, 1), 6 + 4);
        e.due("41 by 10 from the east", x.years(2, 1, 0), 4);
        e.due("28 by 10, of X 999999", x.years(1, 999999, 1), 2);
        e.due("28 by 10 and 58 by 10, of X 999999", x.years(2, 999999, 1), 2 + 5);
    }

    private static void termsYearsWithCornWithoutEnd() {
        Edge e = Edge.ofTerms("what all, what one MILL would GRIND in all, with CORN without end, all else as it is.");
        WindTaken x = Texts.ridgeOf("law 0 0 0; mill water 5 5 1 9 0 0; mill ruin 9 9 9 9 0 999; mill "
            + "water 0 0 1 1 0 1;");
        e.due("one without corn", x.years(1000, 1, 0), 45000);
        e.due("a ruin", x.years(1000, 1, 1), 0);
        e.due("all", x.years(1000, 1, -1), 50000);
        e.due("no corn is gone", x.mill(2, 3), 1);
        x.furl(0, 1);
        e.due("a furled one", x.years(1000, 1, 0), 0);
        e.due("all but that", x.years(1000, 1, -1), 5000);
        x = Texts.ridgeOf("law 50 0 0; mill hooded 5 5 1 1 0 0; mill fixed 4 5 1 1 0 0;");
        e.due("(3, 65), who is ahead faces north", x.years(1, 1, 0), 6);
        x.face(1, 3);
        e.due("(3, 65), it faces west: 33 by 10", x.years(1, 1, 0), 3);
    }

    private static void promise17Set() {
        Edge e = Edge.of(17, "MADE with a set furled (0 to 255).");
        WindTaken x = Texts.ridgeOf(THREE);
        e.due("made(0, 100, 0)", x.made(0, 100, 0), 76);
        e.due("made(0, 100, 255)", x.made(0, 100, 255), 0);
        e.due("made(0, 100, 248), of no MILLS", x.made(0, 100, 248), 76);
        e.due("made(0, 100, 128 + 1)", x.made(0, 100, 129), 72);
        e.badFor("made(0, 100, #)", new int[] {-1, 256, 257, LEAST, MOST}, set -> x.made(0, 100, set));
        WindTaken eight = Texts.ridgeOf("law 0 0 0;mill water 0 0 1 1 0 9;mill water 1 0 1 1 0 9;"
            + "mill water 2 0 1 1 0 9;mill water 3 0 1 1 0 9;mill water 4 0 1 1 0 9;"
            + "mill water 5 0 1 1 0 9;mill water 6 0 1 1 0 9;mill water 7 0 1 1 0 9;");
        e.due("eight, none furled", eight.made(0, 0, 0), 40);
        e.due("the eighth furled", eight.made(0, 0, 128), 35);
        e.due("all furled", eight.made(0, 0, 255), 0);
    }

    private static void promise17Bad() {
        Edge e = Edge.of(17, "BAD; STATE");
        WindTaken x = Texts.ridgeOf(THREE);
        e.badFor("made(#, 100, 0)", NO_QUARTERS, q -> x.made(q, 100, 0));
        e.badFor("made(0, #, 0)", NO_STRENGTHS, w -> x.made(0, w, 0));
    }

    private static void promise17State() {
        Edge e = Edge.of(17, "STATE: no RIDGE (ahead of BAD).");
        WindTaken x = new WindTaken();
        e.state("made(0, 0, 0)", x.made(0, 0, 0));
        e.state("made(4, 0, 0)", x.made(4, 0, 0));
        e.state("made(0, 101, 0)", x.made(0, 101, 0));
        e.state("made(0, 0, 256)", x.made(0, 0, 256));
    }

    private static void promise18Furl() {
        Edge e = Edge.of(18, "FURL: MADE (what = 0), the set (1).");
        WindTaken x = Texts.ridgeOf("law 50 0 0; mill hooded 5 6 1 9 0 99; mill hooded 5 5 1 1 0 99;");
        e.due("best(0, 100, 0)", x.best(0, 100, 0), 90);
        e.due("best(0, 100, 1)", x.best(0, 100, 1), 2);
        e.due("best(0, 0, 0), a calm", x.best(0, 0, 0), 0);
        e.due("best(0, 0, 1), a calm", x.best(0, 0, 1), 0);
        x = Texts.ridgeOf("law 90 0 0; mill fixed 5 5 1 1 0 9;");
        e.due("one alone, it faces away", x.best(2, 100, 1), 0);
    }

    private static void promise18Bad() {
        Edge e = Edge.of(18, "BAD; STATE");
        WindTaken x = Texts.ridgeOf(THREE);
        e.badFor("best(#, 100, 0)", NO_QUARTERS, q -> x.best(q, 100, 0));
        e.badFor("best(0, #, 0)", NO_STRENGTHS, w -> x.best(0, w, 0));
        e.badFor("best(0, 100, #)", new int[] {-1, 2, LEAST, MOST}, what -> x.best(0, 100, what));
    }

    private static void promise18State() {
        Edge e = Edge.of(18, "STATE: no RIDGE (ahead of BAD).");
        WindTaken x = new WindTaken();
        e.state("best(0, 0, 0)", x.best(0, 0, 0));
        e.state("best(4, 0, 0)", x.best(4, 0, 0));
        e.state("best(0, 101, 0)", x.best(0, 101, 0));
        e.state("best(0, 0, 2)", x.best(0, 0, 2));
    }

    private static void promise19Part() {
        Edge e = Edge.of(19, "PART of a MILL; NONE.");
        WindTaken x = Texts.ridgeOf("law 50 0 0; mill hooded 5 6 1 9 0 90; mill hooded 5 5 1 3 0 99; mill "
            + "ruin 20 20 1 1 0 9;");
        e.due("part(0, 100, 0): g 15, the second loses 30", x.part(0, 100, 0), WindTaken.NONE);
        e.none("part(0, 100, 2), which has none of it", x.part(0, 100, 2));
        e.due("part(0, 0, 0), a calm", x.part(0, 0, 0), 0);
        x.furl(1, 1);
        e.due("part(0, 100, 0), it is furled", x.part(0, 100, 0), 0);
        e.due("part(0, 100, 1), it is furled", x.part(0, 100, 1), 0);
    }

    private static void promise19Bad() {
        Edge e = Edge.of(19, "BAD.");
        WindTaken x = Texts.ridgeOf(THREE);
        e.badFor("part(#, 100, 0)", NO_QUARTERS, q -> x.part(q, 100, 0));
        e.badFor("part(0, #, 0)", NO_STRENGTHS, w -> x.part(0, w, 0));
        e.badFor("part(0, 100, #)", NO_MILLS, mill -> x.part(0, 100, mill));
        e.bad("part(0, 100, 0), no RIDGE", new WindTaken().part(0, 100, 0));
    }

    private static void promise20Still() {
        Edge e = Edge.of(20, "STILL: a furled for b: what b gains (what = 0), what a loses (1), whether "
            + "they would deal (2: 1, 0).");
        WindTaken x = Texts.ridgeOf("law 50 0 15; mill hooded 5 6 1 5 0 99; mill hooded 5 5 1 1 0 99;");
        e.due("still(0, 100, 1, 0, 0)", x.still(0, 100, 1, 0, 0), 25);
        e.due("still(0, 100, 1, 0, 1)", x.still(0, 100, 1, 0, 1), 10);
        e.due("still(0, 100, 1, 0, 2)", x.still(0, 100, 1, 0, 2), 1);
        e.due("still(0, 100, 0, 1, 0)", x.still(0, 100, 0, 1, 0), 0);
        e.due("still(0, 100, 0, 1, 1)", x.still(0, 100, 0, 1, 1), 25);
        e.due("still(0, 100, 0, 1, 2)", x.still(0, 100, 0, 1, 2), 0);
        e.due("still(0, 99, 1, 0, 2): 24 and 9", x.still(0, 99, 1, 0, 2), 1);
        e.due("still(0, 0, 1, 0, 2), a calm", x.still(0, 0, 1, 0, 2), 0);
    }

    private static void promise20Bad() {
        Edge e = Edge.of(20, "BAD: alike, too.");
        WindTaken x = Texts.ridgeOf(THREE);
        e.badFor("still(#, 100, 0, 1, 0)", NO_QUARTERS, q -> x.still(q, 100, 0, 1, 0));
        e.badFor("still(0, #, 0, 1, 0)", NO_STRENGTHS, w -> x.still(0, w, 0, 1, 0));
        for (int mill : NO_MILLS) {
            e.bad("still(0, 100, " + mill + ", 1, 0)", x.still(0, 100, mill, 1, 0));
            e.bad("still(0, 100, 0, " + mill + ", 0)", x.still(0, 100, 0, mill, 0));
        }
        e.badFor("still(0, 100, 0, 1, #)", new int[] {-1, 3, LEAST, MOST}, what -> x.still(0, 100, 0, 1, what));
    }

    private static void promise20Alike() {
        Edge e = Edge.of(20, "alike, too.");
        WindTaken x = Texts.ridgeOf(THREE);
        for (int mill = 0; mill < 3; mill++) {
            for (int what = 0; what <= 2; what++) {
                String call = "still(0, 100, " + mill + ", " + mill + ", " + what + ")";
                e.bad(call, x.still(0, 100, mill, mill, what));
            }
        }
    }

    private static void promise21Higher() {
        Edge e = Edge.of(21, "HIGHER: what it gains (what = 0), what others lose (1); FELLED: what others gain (2).");
        WindTaken x = Texts.ridgeOf("law 50 0 0; mill hooded 5 5 2 4 0 900;"
            + "mill hooded 5 7 2 5 0 900; mill hooded 5 9 3 6 0 900;");
        int[][] wanted = {{0, 60 - 30, 50 - 25}, {50 - 25, 60 - 30, 0}, {0, 0, 0}};
        for (int mill = 0; mill < 3; mill++) {
            for (int what = 0; what <= 2; what++) {
                String call = "higher(0, 100, " + mill + ", " + what + ")";
                e.due(call, x.higher(0, 100, mill, what), wanted[mill][what]);
            }
        }
        for (int what = 0; what <= 2; what++) {
            e.due("higher(0, 0, 1, " + what + "), a calm", x.higher(0, 0, 1, what), 0);
        }
    }

    private static void promise21Bad() {
        Edge e = Edge.of(21, "BAD.");
        WindTaken x = Texts.ridgeOf(THREE);
        e.badFor("higher(#, 100, 0, 0)", NO_QUARTERS, q -> x.higher(q, 100, 0, 0));
        e.badFor("higher(0, #, 0, 0)", NO_STRENGTHS, w -> x.higher(0, w, 0, 0));
        e.badFor("higher(0, 100, #, 0)", NO_MILLS, mill -> x.higher(0, 100, mill, 0));
        e.badFor("higher(0, 100, 0, #)", new int[] {-1, 3, LEAST, MOST}, what -> x.higher(0, 100, 0, what));
    }

    private static void promise22Owes() {
        Edge e = Edge.of(22, "What a OWES b.");
        WindTaken x = Texts.ridgeOf(THREE);
        int[][] wanted = {{0, 5, 2}, {0, 0, 2}, {0, 0, 0}};
        for (int a = 0; a < 3; a++) {
            for (int b = 0; b < 3; b++) {
                if (a != b) {
                    e.due("owes(0, 100, " + a + ", " + b + ")", x.owes(0, 100, a, b), wanted[a][b]);
                    e.due("owes(2, 100, " + a + ", " + b + "), the eldest is ahead", x.owes(2, 100, a, b), 0);
                    e.due("owes(0, 0, " + a + ", " + b + "), a calm", x.owes(0, 0, a, b), 0);
                }
            }
        }
    }

    private static void promise22Bad() {
        Edge e = Edge.of(22, "BAD: alike, too.");
        WindTaken x = Texts.ridgeOf(THREE);
        e.badFor("owes(#, 100, 0, 1)", NO_QUARTERS, q -> x.owes(q, 100, 0, 1));
        e.badFor("owes(0, #, 0, 1)", NO_STRENGTHS, w -> x.owes(0, w, 0, 1));
        for (int mill : NO_MILLS) {
            e.bad("owes(0, 100, " + mill + ", 1)", x.owes(0, 100, mill, 1));
            e.bad("owes(0, 100, 0, " + mill + ")", x.owes(0, 100, 0, mill));
        }
    }

    private static void promise22Alike() {
        Edge e = Edge.of(22, "alike, too.");
        WindTaken x = Texts.ridgeOf(THREE);
        for (int mill = 0; mill < 3; mill++) {
            e.bad("owes(0, 100, " + mill + ", " + mill + ")", x.owes(0, 100, mill, mill));
        }
    }

    private static void promise23UpTo24() {
        Edge e = Edge.of(23, "BY NIGHT, n HOURS (1 to 24)");
        WindTaken x = Texts.ridgeOf("law 0 0 0; mill water 0 0 1 1 0 999;");
        Texts.rowOf(x, 5);
        e.due("night(0, 0, 1, 0, -1)", x.night(0, 0, 1, 0, -1), 1);
        Texts.rowOf(x, 120);
        e.due("night(0, 0, 24, 0, -1)", x.night(0, 0, 24, 0, -1), 1);
        e.badFor("night(0, 0, #, 0, -1)", new int[] {0, 25, -1, LEAST, MOST}, n -> x.night(0, 0, n, 0, -1));
    }

    private static void promise23HowMany() {
        Edge e = Edge.of(23, "ITEMS of a ROW from its beginning on, one for each MILL: how many (i = -1), the i-th;");
        WindTaken x = Texts.ridgeOf("law 0 0 0; mill water 0 0 1 1 0 9; mill water 1 0 1 2 0 9;");
        for (int lane = 0; lane <= 2; lane++) {
            x.row(0, lane, 2);
            x.set(0, 0, 5);
            x.set(0, 1, 9);
            e.due("how many, of lane " + lane, x.night(0, 0, 1, 0, -1), 1);
            e.due("number 0, of lane " + lane, x.night(0, 0, 1, 0, 0), 0);
        }
        x.row(0, 2, 40);
        x.set(0, 1, 9);
        e.due("of 40 ITEMS", x.night(0, 0, 1, 0, 0), 1);
        x.set(0, 0, 9);
        x.set(0, 1, 5);
        e.due("the other way round", x.night(0, 0, 1, 0, -1), 0);
    }

    private static void promise23NotSoMany() {
        Edge e = Edge.of(23, "NONE: not so many.");
        WindTaken x = Texts.ridgeOf("law 0 0 0; mill water 0 0 1 1 0 9; mill ruin 1 0 1 2 0 9;");
        Texts.rowOf(x, 5, 0);
        e.due("how many", x.night(0, 0, 1, 0, -1), 2);
        e.due("number 1, the last", x.night(0, 0, 1, 0, 1), 2);
        e.none("number 2", x.night(0, 0, 1, 0, 2));
        e.none("number 256", x.night(0, 0, 1, 0, 256));
        e.none("number, the most", x.night(0, 0, 1, 0, MOST));
        Texts.rowOf(x, 6, 0);
        e.due("how many, of none", x.night(0, 0, 1, 0, -1), 0);
        e.none("number 0, of none", x.night(0, 0, 1, 0, 0));
        e.due("status(): it is no FINDING", x.status(), 0);
    }

    private static void promise23Bad() {
        Edge e = Edge.of(23, "BAD: q, w, n, ROW, i below -1;");
        WindTaken x = Texts.ridgeOf(THREE);
        x.row(0, 2, 3);
        e.badFor("night(#, 0, 1, 0, 0)", NO_QUARTERS, q -> x.night(q, 0, 1, 0, 0));
        e.badFor("night(0, #, 1, 0, 0)", NO_STRENGTHS, w -> x.night(0, w, 1, 0, 0));
        e.badFor("night(0, 0, #, 0, 0)", new int[] {0, 25, -1, LEAST, MOST}, n -> x.night(0, 0, n, 0, 0));
        e.badFor("night(0, 0, 1, #, 0)", new int[] {-1, 8, LEAST, MOST}, row -> x.night(0, 0, 1, row, 0));
        e.badFor("night(0, 0, 1, 0, #)", new int[] {-2, LEAST}, i -> x.night(0, 0, 1, 0, i));
        e.bad("night(0, 0, 25, 1, 0), ahead of NULL", x.night(0, 0, 25, 1, 0));
        x.row(2, 2, 2);
        e.bad("night(0, 0, 1, 2, -2), ahead of PLACE", x.night(0, 0, 1, 2, -2));
    }

    private static void promise23State() {
        Edge e = Edge.of(23, "STATE: no RIDGE (ahead of BAD);");
        WindTaken x = new WindTaken();
        x.row(0, 2, 8);
        e.state("night(0, 0, 1, 0, -1)", x.night(0, 0, 1, 0, -1));
        e.state("night(4, 0, 1, 0, -1)", x.night(4, 0, 1, 0, -1));
        e.state("night(0, 101, 1, 0, -1)", x.night(0, 101, 1, 0, -1));
        e.state("night(0, 0, 25, 0, -1)", x.night(0, 0, 25, 0, -1));
        e.state("night(0, 0, 1, 8, -1)", x.night(0, 0, 1, 8, -1));
        e.state("night(0, 0, 1, 0, -2)", x.night(0, 0, 1, 0, -2));
        e.state("night(0, 0, 1, 1, -1), ahead of NULL", x.night(0, 0, 1, 1, -1));
        e.due("status()", x.status(), 0);
    }

    private static void promise23Null() {
        Edge e = Edge.of(23, "NULL; PLACE.");
        WindTaken x = Texts.ridgeOf(THREE);
        e.isNull("night(0, 0, 1, 0, -1)", x.night(0, 0, 1, 0, -1));
        x.row(0, 2, 3);
        x.drop(0);
        e.isNull("night(0, 0, 1, 0, 0), it was dropped", x.night(0, 0, 1, 0, 0));
    }

    private static void promise23Place() {
        Edge e = Edge.of(23, "PLACE.");
        WindTaken x = Texts.ridgeOf(THREE);
        for (int n = 0; n <= 2; n++) {
            x.row(0, 2, n);
            e.place("a ROW of " + n + " for three", x.night(0, 0, 1, 0, -1));
        }
        x.row(0, 2, 3);
        e.due("a ROW of 3: they ground nothing in a calm", x.night(0, 0, 1, 0, -1), 8);
    }

    private static void promise24Flour() {
        Edge e = Edge.of(24, "YEARS: FLOUR of all (mill = -1), of a MILL.");
        WindTaken x = Texts.ridgeOf("law 0 0 0; mill water 0 0 1 1 0 0; mill water 1 0 1 2 0 0; mill water "
            + "2 0 1 3 0 0;");
        for (int n : new int[] {1, 2, 999, 1000}) {
            e.due("years(" + n + ", 1, -1)", x.years(n, 1, -1), 30 * n);
            e.due("years(" + n + ", 1, 0)", x.years(n, 1, 0), 5 * n);
            e.due("years(" + n + ", 999999, 2)", x.years(n, 999999, 2), 15 * n);
        }
    }

    private static void promise24Bad() {
        Edge e = Edge.of(24, "BAD: SEED 1 to 999999 (X at first), n;");
        WindTaken x = Texts.ridgeOf("law 0 0 0; mill hooded 0 0 1 1 0 0;");
        e.due("years(1, 1, 0): 65 by 10", x.years(1, 1, 0), 6);
        e.due("years(1, 999999, 0): 28 by 10", x.years(1, 999999, 0), 2);
        e.badFor("years(1, #, -1)", new int[] {0, 1000000, -1, LEAST, MOST}, seed -> x.years(1, seed, -1));
        e.badFor("years(#, 1, -1)", new int[] {0, 1001, -1, LEAST, MOST}, n -> x.years(n, 1, -1));
        e.badFor("years(1, 1, #)", new int[] {-2, 1, 8, LEAST, MOST}, mill -> x.years(1, 1, mill));
    }

    private static void promise24State() {
        Edge e = Edge.of(24, "STATE: no RIDGE (ahead of BAD).");
        WindTaken x = new WindTaken();
        e.state("years(1, 1, -1)", x.years(1, 1, -1));
        e.state("years(0, 1, -1)", x.years(0, 1, -1));
        e.state("years(1, 0, -1)", x.years(1, 0, -1));
        e.state("years(1, 1, 0)", x.years(1, 1, 0));
        e.state("years(1, 1, -2)", x.years(1, 1, -2));
    }
}
