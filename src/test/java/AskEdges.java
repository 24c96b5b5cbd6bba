/** The sentences on kinds, asks and counts that name a boundary case: KINDS, Terms 4, promises 27 to 31. */
final class AskEdges {
    private static final int LEAST = Integer.MIN_VALUE;
    private static final int MOST = Integer.MAX_VALUE;
    private static final int[] NO_MILLS = {-1, 5, 8, LEAST, MOST};
    /** By an hour (0, 50) they grind 5, 10, 5, 5, 0. */
    private static final String FIVE = "law 0 0 0; mill fixed 3 0 2 1 9 9; mill water 0 0 1 2 5 50;"
        + "mill hooded 6 0 3 1 7 9; mill half 9 0 4 2 50 9; mill ruin 12 0 5 1 99 9;";
    private static final int IS_FIXED = 0;
    private static final int IS_WATER = 1;
    private static final int IS_HOODED = 2;
    private static final int IS_HALF = 3;
    private static final int IS_RUIN = 4;

    private AskEdges() {
    }

    static void run() {
        termsKinds();
        termsAskedByThis();
        termsTrace();
        termsSizeOfFixedOnes();
        termsSizeOfHalfOnes();
        termsSizeOfWaterOnes();
        termsSizeOfRuins();
        termsMarkOfFixedOnes();
        termsMarkOfHoodedOnes();
        termsMarkOfWaterOnes();
        termsMarkOfHalfOnes();
        termsNearestKind();
        termsAskedAnew();
        promise27Kind();
        promise27Bad();
        promise28As();
        promise28Bad();
        promise28Kind();
        promise29Ask();
        promise29Bad();
        promise29EmptyAhead();
        promise29Refused();
        promise30Number();
        promise30None();
        promise31HowMany();
        promise31Bad();
    }

    private static WindTaken five() {
        WindTaken x = Texts.ridgeOf(FIVE);
        x.hour(0, 50);
        return x;
    }

    private static void dueAsk(Edge e, WindTaken x, int mill, int what, int answer, int... bodies) {
        String call = "ask(" + mill + ", " + what + ")";
        e.due(call, x.ask(mill, what), answer);
        for (int i = 0; i < bodies.length; i++) {
            e.due("trace(" + i + ") of " + call, x.trace(i), bodies[i]);
        }
        e.none("trace(" + bodies.length + ") of " + call, x.trace(bodies.length));
    }

    private static void termsKinds() {
        Edge e = Edge.ofTerms("KINDS of MILLS: 0 MILL; 1 FIXED, a MILL; 2 HOODED, a FIXED one; 3 HALF, a HOODED one; "
            + "4 WATER, a MILL; 5 RUIN, a FIXED one.");
        WindTaken x = Texts.ridgeOf(FIVE);
        int[] kindsOf = {1 | 2, 1 | 16, 1 | 2 | 4, 1 | 2 | 4 | 8, 1 | 2 | 32};
        for (int mill = 0; mill < 5; mill++) {
            for (int kind = 0; kind <= 5; kind++) {
                boolean is = (kindsOf[mill] >> kind & 1) != 0;
                e.due("as(" + mill + ", " + kind + ")", x.as(mill, kind), is ? mill : -1000013);
            }
        }
    }

    private static void termsAskedByThis() {
        Edge e = Edge.ofTerms("By this it is asked.");
        WindTaken x = Texts.ridgeOf(FIVE);
        int[] sizes = {11, 13, 11, 12, 14};
        int[] marks = {21, 23, 22, 24, 21};
        for (int mill = 0; mill < 5; mill++) {
            x.ask(mill, 0);
            e.due("SIZE of " + mill + " begins with", x.trace(0), sizes[mill]);
            x.ask(mill, 1);
            e.due("MARK of " + mill + " begins with", x.trace(0), marks[mill]);
        }
        x.as(IS_HALF, 0);
        x.ask(IS_HALF, 0);
        e.due("a HALF one taken as a MILL", x.trace(0), 12);
    }

    private static void termsTrace() {
        Edge e = Edge.ofTerms("ASKS of MILLS, by BODIES, each of which leaves its number in THE TRACE as "
            + "it begins (the first 16):");
        WindTaken x = five();
        e.none("trace(0), nothing was asked", x.trace(0));
        dueAsk(e, x, IS_HALF, 0, -(5 + 2 * (3 + 40 - 50)), 12, 11, 10, 24, 22, 21, 20);
        e.none("trace(15)", x.trace(15));
        e.none("trace(16)", x.trace(16));
    }

    private static void termsSizeOfFixedOnes() {
        Edge e = Edge.ofTerms("0 SIZE: 10 lent to all MILLS: FLOUR. 11 of FIXED ones: what 10 gives, and MARK.");
        WindTaken x = five();
        dueAsk(e, x, IS_FIXED, 0, 5 + 20, 11, 10, 21, 20);
        dueAsk(e, x, IS_HOODED, 0, 5 + 2 + 30 - 7, 11, 10, 22, 21, 20);
        x = Texts.ridgeOf(FIVE);
        dueAsk(e, x, IS_FIXED, 0, 0 + 20, 11, 10, 21, 20);
    }

    private static void termsSizeOfHalfOnes() {
        Edge e = Edge.ofTerms("12 of HALF ones: 0 less what 11 gives.");
        dueAsk(e, five(), IS_HALF, 0, -(5 - 14), 12, 11, 10, 24, 22, 21, 20);
        WindTaken x = Texts.ridgeOf("law 0 0 0; mill half 9 0 4 2 0 9;");
        dueAsk(e, x, 0, 0, -(0 + 80), 12, 11, 10, 24, 22, 21, 20);
    }

    private static void termsSizeOfWaterOnes() {
        Edge e = Edge.ofTerms("13 of WATER ones: what 10 gives, less 100.");
        WindTaken x = Texts.ridgeOf("law 0 0 0; mill water 0 0 1 9 5 101;");
        dueAsk(e, x, 0, 0, -100, 13, 10);
        x.hour(0, 0);
        x.hour(0, 0);
        dueAsk(e, x, 0, 0, -10, 13, 10);
        x.hour(0, 0);
        dueAsk(e, x, 0, 0, 1, 13, 10);
    }

    private static void termsSizeOfRuins() {
        Edge e = Edge.ofTerms("14 of RUINS: twice what 11 gives (asked once).");
        dueAsk(e, five(), IS_RUIN, 0, 2 * (0 + 4 + 50), 14, 11, 10, 21, 20);
    }

    private static void termsMarkOfFixedOnes() {
        Edge e = Edge.ofTerms("1 MARK: 20 lent to all MILLS: its number. 21 of FIXED ones: what 20 gives, "
            + "and 10 times FLOORS.");
        WindTaken x = five();
        dueAsk(e, x, IS_FIXED, 1, 0 + 20, 21, 20);
        dueAsk(e, x, IS_RUIN, 1, 4 + 50, 21, 20);
        x.build(IS_FIXED);
        dueAsk(e, x, IS_FIXED, 1, 0 + 30, 21, 20);
    }

    private static void termsMarkOfHoodedOnes() {
        Edge e = Edge.ofTerms("22 of HOODED ones: what 21 gives, less AGE.");
        dueAsk(e, five(), IS_HOODED, 1, 2 + 30 - 7, 22, 21, 20);
        WindTaken x = Texts.ridgeOf("law 0 0 0; mill hooded 0 0 1 1 99 0;");
        dueAsk(e, x, 0, 1, 0 + 10 - 99, 22, 21, 20);
    }

    private static void termsMarkOfWaterOnes() {
        Edge e = Edge.ofTerms("23 of WATER ones: what 20 gives, and SIZE.");
        dueAsk(e, five(), IS_WATER, 1, 1 + 10 - 100, 23, 20, 13, 10);
    }

    private static void termsMarkOfHalfOnes() {
        Edge e = Edge.ofTerms("24 of HALF ones: twice what 22 gives (asked once).");
        dueAsk(e, five(), IS_HALF, 1, 2 * (3 + 40 - 50), 24, 22, 21, 20);
        WindTaken x = Texts.ridgeOf("law 0 0 0; mill half 0 0 9 1 0 0;");
        dueAsk(e, x, 0, 1, 2 * 90, 24, 22, 21, 20);
    }

    private static void termsNearestKind() {
        Edge e = Edge.ofTerms("(Of an ask the BODY told for the KIND begins, else that of the nearest KIND "
            + "that it is, too, "
            + "else the one that is lent;");
        WindTaken x = five();
        dueAsk(e, x, IS_HOODED, 0, 30, 11, 10, 22, 21, 20);
        dueAsk(e, x, IS_RUIN, 1, 54, 21, 20);
        dueAsk(e, x, IS_WATER, 0, -90, 13, 10);
    }

    private static void termsAskedAnew() {
        Edge e = Edge.ofTerms("SIZE, MARK within others are asked of the same MILL anew.)");
        WindTaken x = five();
        dueAsk(e, x, IS_HOODED, 0, 5 + 25, 11, 10, 22, 21, 20);
        dueAsk(e, x, IS_HALF, 0, -(5 - 14), 12, 11, 10, 24, 22, 21, 20);
        dueAsk(e, x, IS_WATER, 1, 1 - 90, 23, 20, 13, 10);
        dueAsk(e, x, IS_RUIN, 0, 2 * 54, 14, 11, 10, 21, 20);
    }

    private static void promise27Kind() {
        Edge e = Edge.of(27, "The KIND of a MILL, as told (1 to 5).");
        WindTaken x = Texts.ridgeOf(FIVE);
        int[] wanted = {1, 4, 2, 3, 5};
        for (int mill = 0; mill < 5; mill++) {
            e.due("kind(" + mill + ")", x.kind(mill), wanted[mill]);
            x.as(mill, 0);
            e.due("kind(" + mill + "), taken as a MILL", x.kind(mill), wanted[mill]);
        }
    }

    private static void promise27Bad() {
        Edge e = Edge.of(27, "BAD.");
        WindTaken x = Texts.ridgeOf(FIVE);
        e.badFor("kind(#)", NO_MILLS, mill -> x.kind(mill));
        e.bad("kind(0), no RIDGE", new WindTaken().kind(0));
    }

    private static void promise28As() {
        Edge e = Edge.of(28, "A MILL is taken as one of a KIND (0 .. 5): the MILL's number.");
        WindTaken x = Texts.ridgeOf(FIVE);
        int[] own = {1, 4, 2, 3, 5};
        for (int mill = 0; mill < 5; mill++) {
            e.due("as(" + mill + ", 0)", x.as(mill, 0), mill);
            e.due("as(" + mill + ", " + own[mill] + ")", x.as(mill, own[mill]), mill);
        }
        e.due("status()", x.status(), 0);
    }

    private static void promise28Bad() {
        Edge e = Edge.of(28, "BAD; KIND");
        WindTaken x = Texts.ridgeOf(FIVE);
        e.badFor("as(#, 0)", NO_MILLS, mill -> x.as(mill, 0));
        for (int kind : new int[] {-1, 6, LEAST, MOST}) {
            e.bad("as(0, " + kind + ")", x.as(0, kind));
            e.bad("as(5, " + kind + ")", x.as(5, kind));
        }
        e.bad("as(0, 0), no RIDGE", new WindTaken().as(0, 0));
    }

    private static void promise28Kind() {
        Edge e = Edge.of(28, "KIND: it is no such one.");
        WindTaken x = Texts.ridgeOf(FIVE);
        e.kind("a FIXED one as a HOODED one", x.as(IS_FIXED, 2));
        e.kind("a HOODED one as a HALF one", x.as(IS_HOODED, 3));
        e.kind("a HALF one as a WATER one", x.as(IS_HALF, 4));
        e.kind("a WATER one as a FIXED one", x.as(IS_WATER, 1));
        e.kind("a RUIN as a HOODED one", x.as(IS_RUIN, 2));
        e.kind("a FIXED one as a RUIN", x.as(IS_FIXED, 5));
        e.due("status()", x.status(), 3);
    }

    private static void promise29Ask() {
        Edge e = Edge.of(29, "An ASK (0, 1) of a MILL.");
        WindTaken x = five();
        int[] sizes = {25, -90, 30, 9, 108};
        int[] marks = {20, -89, 25, -14, 54};
        for (int mill = 0; mill < 5; mill++) {
            e.due("ask(" + mill + ", 0)", x.ask(mill, 0), sizes[mill]);
            e.due("ask(" + mill + ", 1)", x.ask(mill, 1), marks[mill]);
        }
    }

    private static void promise29Bad() {
        Edge e = Edge.of(29, "BAD.");
        WindTaken x = Texts.ridgeOf(FIVE);
        e.badFor("ask(#, 0)", NO_MILLS, mill -> x.ask(mill, 0));
        e.badFor("ask(0, #)", new int[] {-1, 2, LEAST, MOST}, what -> x.ask(0, what));
        e.bad("ask(0, 0), no RIDGE", new WindTaken().ask(0, 0));
    }

    private static void promise29EmptyAhead() {
        Edge e = Edge.of(29, "THE TRACE is empty ahead of it");
        WindTaken x = five();
        x.ask(IS_HALF, 0);
        dueAsk(e, x, IS_FIXED, 1, 20, 21, 20);
        for (int i = 2; i < 18; i++) {
            e.none("trace(" + i + "), of the longer one before", x.trace(i));
        }
        for (int k = 0; k < 20; k++) {
            x.ask(IS_WATER, 0);
        }
        dueAsk(e, x, IS_WATER, 0, -90, 13, 10);
    }

    private static void promise29Refused() {
        Edge e = Edge.of(29, "(where that is refused it stays).");
        WindTaken x = five();
        x.ask(IS_WATER, 1);
        x.ask(5, 0);
        x.ask(-1, 1);
        x.ask(0, 2);
        x.ask(0, -1);
        int[] wanted = {23, 20, 13, 10, WindTaken.NONE};
        for (int i = 0; i < wanted.length; i++) {
            e.due("trace(" + i + ")", x.trace(i), wanted[i]);
        }
    }

    private static void promise30Number() {
        Edge e = Edge.of(30, "Number i of THE TRACE;");
        WindTaken x = five();
        x.ask(IS_HALF, 0);
        int[] wanted = {12, 11, 10, 24, 22, 21, 20};
        for (int i = 0; i < wanted.length; i++) {
            e.due("trace(" + i + ")", x.trace(i), wanted[i]);
        }
        x.hour(0, 50);
        Texts.read(x, FIVE);
        e.due("trace(6), until the next ASK", x.trace(6), 20);
    }

    private static void promise30None() {
        Edge e = Edge.of(30, "NONE.");
        WindTaken x = five();
        e.none("trace(0), ahead of an ASK", x.trace(0));
        x.ask(IS_WATER, 0);
        for (int i : new int[] {-1, 2, 15, 16, 17, LEAST, MOST}) {
            e.none("trace(" + i + "), of two", x.trace(i));
        }
    }

    private static void promise31HowMany() {
        Edge e = Edge.of(31, "How many: 0 ROWS, 1 MILLS, 2 hours gone, 3 FLOUR in all, 4 furled ones, 5 "
            + "bytes on the tape.");
        WindTaken x = new WindTaken();
        for (int what = 0; what <= 5; what++) {
            e.due("count(" + what + "), of a new one", x.count(what), 0);
        }
        Texts.read(x, FIVE);
        for (int row = 0; row < 8; row++) {
            x.row(row, 0, row);
        }
        x.drop(3);
        x.row(5, 1, 1);
        x.hour(0, 50);
        x.hours(7, 0, 4);
        for (int mill = 0; mill < 5; mill++) {
            x.furl(mill, 1);
            x.furl(mill, 1);
        }
        Texts.feed(x, " ".repeat(400));
        int[] wanted = {7, 5, 5, 25 + 4 * 10, 5, 400};
        for (int what = 0; what <= 5; what++) {
            e.due("count(" + what + ")", x.count(what), wanted[what]);
        }
    }

    private static void promise31Bad() {
        Edge e = Edge.of(31, "BAD.");
        WindTaken x = Texts.ridgeOf(FIVE);
        e.badFor("count(#)", new int[] {-1, 6, LEAST, MOST}, what -> x.count(what));
        e.bad("count(6), no RIDGE", new WindTaken().count(6));
    }
}
