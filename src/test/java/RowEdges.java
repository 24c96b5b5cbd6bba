/** The sentences on rows that name a boundary case: Terms 1, promises 1 to 5, and 32. */
final class RowEdges {
    private static final int LEAST = Integer.MIN_VALUE;
    private static final int MOST = Integer.MAX_VALUE;
    private static final int[] NO_ROWS = {-1, 8, LEAST, MOST};

    private RowEdges() {
    }

    static void run() {
        termsRowsAreMissingAtFirst();
        termsLanes();
        termsItems();
        termsItemsAreNoughtAtFirst();
        promise1NoRidge();
        promise2InPlaceOfWhatIsThere();
        promise2Bad();
        promise2Size();
        promise3LowestBits();
        promise3WhatItIsThen();
        promise3Bad();
        promise3Null();
        promise3Place();
        promise4AsTheyWereAhead();
        promise4WholeAndNone();
        promise4Bad();
        promise4Null();
        promise4Store();
        promise4PlaceBelow();
        promise4PlaceBeyond();
        promise5MissingFromNowOn();
        promise5Bad();
        promise5Null();
        promise32TheLatestCall();
        promise32NotOfRefusals();
        promise32None();
    }

    private static void termsRowsAreMissingAtFirst() {
        Edge e = Edge.ofTerms("ROWS 0 .. 7 are missing (at first)");
        WindTaken x = new WindTaken();
        e.due("count(0)", x.count(0), 0);
        for (int row = 0; row <= 7; row++) {
            e.isNull("drop(" + row + ")", x.drop(row));
            e.due("row(" + row + ", 0, 1)", x.row(row, 0, 1), 1);
            e.due("count(0)", x.count(0), row + 1);
        }
        e.badFor("row(#, 0, 1)", NO_ROWS, row -> x.row(row, 0, 1));
    }

    private static void termsLanes() {
        Edge e = Edge.ofTerms("or have a LANE (0 bytes, 1 shorts, 2 ints)");
        WindTaken x = new WindTaken();
        e.due("row(0, 0, 1)", x.row(0, 0, 1), 1);
        e.due("a byte becomes 40000", x.set(0, 0, 40000), 64);
        e.due("row(0, 1, 1)", x.row(0, 1, 1), 1);
        e.due("a short becomes 40000", x.set(0, 0, 40000), -25536);
        e.due("row(0, 2, 1)", x.row(0, 2, 1), 1);
        e.due("an int becomes 40000", x.set(0, 0, 40000), 40000);
        e.badFor("row(0, #, 1)", new int[] {-1, 3, LEAST, MOST}, lane -> x.row(0, lane, 1));
    }

    private static void termsItems() {
        Edge e = Edge.ofTerms("and 0 to 40 ITEMS");
        for (int lane = 0; lane <= 2; lane++) {
            WindTaken x = new WindTaken();
            e.due("row(0, " + lane + ", 0)", x.row(0, lane, 0), 0);
            e.place("item 0 of none", x.set(0, 0, 1));
            e.due("it is there, though", x.count(0), 1);
            e.due("row(1, " + lane + ", 1)", x.row(1, lane, 1), 1);
            e.due("item 0 of one", x.set(1, 0, 1), 1);
            e.place("item 1 of one", x.set(1, 1, 1));
            e.due("row(2, " + lane + ", 40)", x.row(2, lane, 40), 40);
            e.due("item 39 of 40", x.set(2, 39, 1), 1);
            e.place("item 40 of 40", x.set(2, 40, 1));
            e.bad("row(3, " + lane + ", 41)", x.row(3, lane, 41));
            e.size("row(3, " + lane + ", -1)", x.row(3, lane, -1));
        }
    }

    private static void termsItemsAreNoughtAtFirst() {
        Edge e = Edge.ofTerms("0 at first.");
        for (int lane = 0; lane <= 2; lane++) {
            WindTaken x = new WindTaken();
            x.row(0, lane, 40);
            x.row(1, lane, 8);
            for (int from = 0; from < 40; from += 8) {
                x.copy(0, from, 1, 0, 8);
                e.holds("items from " + from + " on, lane " + lane,
                    Texts.begins(x, 1, 0, 0, 0, 0, 0, 0, 0, 0));
            }
        }
        WindTaken x = new WindTaken();
        x.row(0, 0, 2);
        x.set(0, 0, 5);
        x.set(0, 1, 6);
        x.row(0, 0, 1);
        x.row(0, 0, 2);
        e.holds("in place of others", Texts.begins(x, 0, 0, 0));
        x.set(0, 1, 6);
        x.drop(0);
        x.row(0, 2, 2);
        e.holds("after a drop", Texts.begins(x, 0, 0, 0));
    }

    private static void promise1NoRidge() {
        Edge e = Edge.of(1, "No RIDGE.");
        WindTaken x = new WindTaken();
        e.due("count(1)", x.count(1), 0);
        e.due("fault()", x.fault(), 0);
        e.due("status()", x.status(), 0);
        e.none("trace(0)", x.trace(0));
        e.state("hour(0, 0)", x.hour(0, 0));
        e.state("hours(0, 0, 1)", x.hours(0, 0, 1));
        e.state("made(0, 0, 0)", x.made(0, 0, 0));
        e.state("best(0, 0, 0)", x.best(0, 0, 0));
        e.state("night(0, 0, 1, 0, -1)", x.night(0, 0, 1, 0, -1));
        e.state("years(1, 1, -1)", x.years(1, 1, -1));
        e.state("image(0)", x.image(0));
        e.state("restore(0)", x.restore(0));
        e.bad("furl(0, 0)", x.furl(0, 0));
        e.bad("face(0, 0)", x.face(0, 0));
        e.bad("build(0)", x.build(0));
        e.bad("bring(0, 0)", x.bring(0, 0));
        e.bad("mill(0, 0)", x.mill(0, 0));
        e.bad("left(0, 0, 0, 0)", x.left(0, 0, 0, 0));
        e.bad("part(0, 0, 0)", x.part(0, 0, 0));
        e.bad("still(0, 0, 0, 1, 0)", x.still(0, 0, 0, 1, 0));
        e.bad("higher(0, 0, 0, 0)", x.higher(0, 0, 0, 0));
        e.bad("owes(0, 0, 0, 1)", x.owes(0, 0, 0, 1));
        e.bad("kind(0)", x.kind(0));
        e.bad("as(0, 0)", x.as(0, 0));
        e.bad("ask(0, 0)", x.ask(0, 0));
    }

    private static void promise2InPlaceOfWhatIsThere() {
        Edge e = Edge.of(2, "A ROW of a LANE with n ITEMS, in place of what is there: n.");
        WindTaken x = new WindTaken();
        e.due("row(3, 0, 40)", x.row(3, 0, 40), 40);
        e.due("row(3, 2, 0), in place of 40 bytes", x.row(3, 2, 0), 0);
        e.due("still one", x.count(0), 1);
        e.place("none of 40 is there", x.set(3, 0, 1));
        e.due("row(3, 2, 1), in place of none", x.row(3, 2, 1), 1);
        e.due("an int is there", x.set(3, 0, 300), 300);
        e.due("row(3, 0, 1), in place of an int", x.row(3, 0, 1), 1);
        e.due("a byte is there", x.set(3, 0, 300), 44);
    }

    private static void promise2Bad() {
        Edge e = Edge.of(2, "BAD: ROW, LANE, n above 40");
        WindTaken x = new WindTaken();
        x.row(0, 2, 1);
        x.set(0, 0, 7);
        e.badFor("row(#, 2, 1)", NO_ROWS, row -> x.row(row, 2, 1));
        e.bad("row(0, -1, 1)", x.row(0, -1, 1));
        e.bad("row(0, 3, 1)", x.row(0, 3, 1));
        e.bad("row(0, 2, 41)", x.row(0, 2, 41));
        e.bad("row(0, 2, most)", x.row(0, 2, MOST));
        e.bad("ahead of SIZE: a ROW", x.row(8, 2, -1));
        e.bad("ahead of SIZE: a LANE", x.row(0, 3, -1));
        e.due("no ROW came", x.count(0), 1);
        e.holds("its item stays", Texts.begins(x, 0, 7));
    }

    private static void promise2Size() {
        Edge e = Edge.of(2, "SIZE.");
        WindTaken x = new WindTaken();
        x.row(0, 1, 1);
        x.set(0, 0, 7);
        e.size("row(0, 2, -1)", x.row(0, 2, -1));
        e.size("row(0, 2, least)", x.row(0, 2, LEAST));
        e.size("row(1, 2, -1)", x.row(1, 2, -1));
        e.due("status()", x.status(), 4);
        e.due("no ROW came", x.count(0), 1);
        e.due("it is one of shorts on", x.set(0, 0, 65536 + 7), 7);
        e.due("0 is no less than none", x.row(0, 2, 0), 0);
    }

    private static void promise3LowestBits() {
        Edge e = Edge.of(3, "ITEM i becomes v, its lowest bits, as many as the LANE has (read with their sign)");
        int[] given = {0, -1, 127, 128, -128, -129, 255, 256, 32767, 32768, -32768, -32769, 65535, 65536,
            LEAST, MOST};
        int[] bytes = {0, -1, 127, -128, -128, 127, -1, 0, -1, 0, 0, -1, -1, 0, 0, -1};
        int[] shorts = {0, -1, 127, 128, -128, -129, 255, 256, 32767, -32768, -32768, 32767, -1, 0, 0, -1};
        WindTaken x = new WindTaken();
        for (int lane = 0; lane <= 2; lane++) {
            x.row(lane, lane, 1);
        }
        for (int k = 0; k < given.length; k++) {
            e.due("a byte becomes " + given[k], x.set(0, 0, given[k]), bytes[k]);
            e.due("a short becomes " + given[k], x.set(1, 0, given[k]), shorts[k]);
            e.due("an int becomes " + given[k], x.set(2, 0, given[k]), given[k]);
        }
    }

    private static void promise3WhatItIsThen() {
        Edge e = Edge.of(3, ": what it is then.");
        WindTaken x = new WindTaken();
        x.row(0, 0, 3);
        e.due("set(0, 0, 256 + 7)", x.set(0, 0, 256 + 7), 7);
        e.due("set(0, 2, 512 + 9)", x.set(0, 2, 512 + 9), 9);
        e.holds("the first and the last, no other", Texts.begins(x, 0, 7, 0, 9));
        x.row(1, 1, 1);
        e.due("set(1, 0, 65536 + 900)", x.set(1, 0, 65536 + 900), 900);
        e.holds("a short", Texts.begins(x, 1, 900));
    }

    private static void promise3Bad() {
        Edge e = Edge.of(3, "BAD: ROW");
        WindTaken x = new WindTaken();
        x.row(0, 0, 1);
        x.row(7, 0, 1);
        for (int row : NO_ROWS) {
            e.bad("set(" + row + ", 0, 0)", x.set(row, 0, 0));
            e.bad("set(" + row + ", -1, 0), ahead of PLACE", x.set(row, -1, 0));
        }
        e.due("set(7, 0, 1)", x.set(7, 0, 1), 1);
    }

    private static void promise3Null() {
        Edge e = Edge.of(3, "NULL");
        WindTaken x = new WindTaken();
        x.row(1, 0, 1);
        e.isNull("set(0, 0, 1)", x.set(0, 0, 1));
        e.isNull("set(0, -1, 1), ahead of PLACE", x.set(0, -1, 1));
        e.isNull("set(0, 40, 1), ahead of PLACE", x.set(0, 40, 1));
        e.due("no ROW came", x.count(0), 1);
    }

    private static void promise3Place() {
        Edge e = Edge.of(3, "PLACE.");
        WindTaken x = new WindTaken();
        x.row(0, 0, 3);
        e.due("set(0, 2, 1)", x.set(0, 2, 1), 1);
        for (int i : new int[] {-1, 3, 40, LEAST, MOST}) {
            e.place("set(0, " + i + ", 5)", x.set(0, i, 5));
        }
        e.holds("no item became 5", Texts.begins(x, 0, 0, 0, 1));
    }

    private static void promise4AsTheyWereAhead() {
        Edge e = Edge.of(4, "n ITEMS of a from i on come to b from j on, as they were ahead: n.");
        WindTaken x = new WindTaken();
        Texts.rowOf(x, 1, 2, 3, 4, 5, 6);
        e.due("copy(0, 0, 0, 1, 5)", x.copy(0, 0, 0, 1, 5), 5);
        e.holds("one up", Texts.begins(x, 0, 1, 1, 2, 3, 4, 5));
        e.due("copy(0, 1, 0, 0, 5)", x.copy(0, 1, 0, 0, 5), 5);
        e.holds("one down", Texts.begins(x, 0, 1, 2, 3, 4, 5, 5));
        e.due("copy(0, 0, 0, 0, 6)", x.copy(0, 0, 0, 0, 6), 6);
        e.holds("upon themselves", Texts.begins(x, 0, 1, 2, 3, 4, 5, 5));
        x.row(1, 2, 3);
        e.due("copy(0, 3, 1, 1, 2)", x.copy(0, 3, 1, 1, 2), 2);
        e.holds("to another", Texts.begins(x, 1, 0, 4, 5));
        e.holds("they stay where they were", Texts.begins(x, 0, 1, 2, 3, 4, 5, 5));
    }

    private static void promise4WholeAndNone() {
        Edge e = Edge.of(4, "n ITEMS of a from i on come to b from j on");
        WindTaken x = new WindTaken();
        x.row(0, 0, 40);
        x.row(1, 0, 40);
        x.row(2, 0, 0);
        x.set(0, 39, 8);
        e.due("all 40", x.copy(0, 0, 1, 0, 40), 40);
        x.copy(1, 39, 1, 0, 1);
        e.holds("the last came", Texts.begins(x, 1, 8, 0));
        e.due("none, at the beginning", x.copy(0, 0, 1, 0, 0), 0);
        e.due("none, at both ends", x.copy(0, 40, 1, 40, 0), 0);
        e.due("none of none", x.copy(2, 0, 2, 0, 0), 0);
    }

    private static void promise4Bad() {
        Edge e = Edge.of(4, "BAD: ROWS");
        WindTaken x = new WindTaken();
        x.row(0, 0, 1);
        x.row(7, 0, 1);
        e.due("copy(7, 0, 0, 0, 1)", x.copy(7, 0, 0, 0, 1), 1);
        e.due("copy(0, 0, 7, 0, 1)", x.copy(0, 0, 7, 0, 1), 1);
        for (int row : NO_ROWS) {
            e.bad("copy(" + row + ", 0, 0, 0, 1)", x.copy(row, 0, 0, 0, 1));
            e.bad("copy(0, 0, " + row + ", 0, 1)", x.copy(0, 0, row, 0, 1));
            e.bad("ahead of NULL: copy(1, 0, " + row + ", 0, 1)", x.copy(1, 0, row, 0, 1));
            e.bad("ahead of NULL: copy(" + row + ", 0, 1, 0, 1)", x.copy(row, 0, 1, 0, 1));
            e.bad("ahead of PLACE: copy(0, -1, " + row + ", 0, 1)", x.copy(0, -1, row, 0, 1));
        }
    }

    private static void promise4Null() {
        Edge e = Edge.of(4, "NULL");
        WindTaken x = new WindTaken();
        x.row(0, 0, 1);
        e.isNull("a is missing", x.copy(1, 0, 0, 0, 1));
        e.isNull("b is missing", x.copy(0, 0, 1, 0, 1));
        e.isNull("both", x.copy(1, 0, 2, 0, 1));
        e.isNull("one twice", x.copy(1, 0, 1, 0, 0));
        e.isNull("ahead of PLACE", x.copy(0, -1, 1, 0, -1));
        x.row(2, 2, 1);
        x.drop(0);
        e.isNull("ahead of STORE: a was one of bytes", x.copy(0, 0, 2, 0, 1));
    }

    private static void promise4Store() {
        Edge e = Edge.of(4, "STORE");
        WindTaken x = new WindTaken();
        for (int lane = 0; lane <= 2; lane++) {
            x.row(lane, lane, 1);
        }
        for (int a = 0; a <= 2; a++) {
            for (int b = 0; b <= 2; b++) {
                int got = x.copy(a, 0, b, 0, 1);
                e.due("copy(" + a + ", 0, " + b + ", 0, 1)", got, a == b ? 1 : -1000015);
            }
        }
        e.store("none of them, too", x.copy(0, 0, 1, 0, 0));
        e.store("ahead of PLACE", x.copy(0, -1, 1, 2, -1));
        x.row(1, 0, 1);
        e.due("of one LANE from now on", x.copy(0, 0, 1, 0, 1), 1);
    }

    private static void promise4PlaceBelow() {
        Edge e = Edge.of(4, "PLACE (i, j, n below 0");
        WindTaken x = new WindTaken();
        Texts.rowOf(x, 1, 2);
        x.row(1, 2, 2);
        for (int below : new int[] {-1, LEAST}) {
            e.place("i " + below, x.copy(0, below, 1, 0, 1));
            e.place("j " + below, x.copy(0, 0, 1, below, 1));
            e.place("n " + below, x.copy(0, 0, 1, 0, below));
            e.place("i " + below + ", none", x.copy(0, below, 1, 0, 0));
            e.place("j " + below + ", none", x.copy(0, 0, 1, below, 0));
            e.place("i and n " + below, x.copy(0, below, 1, 0, below));
        }
        e.place("n -1 at the end", x.copy(0, 2, 1, 2, -1));
        e.holds("none came", Texts.begins(x, 1, 0, 0));
    }

    private static void promise4PlaceBeyond() {
        Edge e = Edge.of(4, ", or beyond an end).");
        WindTaken x = new WindTaken();
        Texts.rowOf(x, 1, 2, 3);
        x.row(1, 2, 2);
        e.due("up to both ends", x.copy(0, 1, 1, 0, 2), 2);
        e.place("one beyond a's", x.copy(0, 2, 1, 0, 2));
        e.place("one beyond b's", x.copy(0, 0, 1, 1, 2));
        e.place("more than b has", x.copy(0, 0, 1, 0, 3));
        e.place("none, beyond a's", x.copy(0, 4, 1, 0, 0));
        e.place("none, beyond b's", x.copy(0, 0, 1, 3, 0));
        e.place("i, the most", x.copy(0, MOST, 1, 0, 1));
        e.place("j, the most", x.copy(0, 0, 1, MOST, 1));
        e.place("n, the most", x.copy(0, 0, 1, 0, MOST));
        e.place("i and n wrap around", x.copy(0, 1, 1, 1, MOST));
        e.place("all the most", x.copy(0, MOST, 1, MOST, MOST));
        e.holds("what was there stays", Texts.begins(x, 1, 2, 3));
    }

    private static void promise5MissingFromNowOn() {
        Edge e = Edge.of(5, "A ROW is missing from now on: how many ITEMS it had.");
        WindTaken x = new WindTaken();
        x.row(0, 0, 0);
        x.row(7, 2, 40);
        e.due("one of none", x.drop(0), 0);
        e.due("one of 40", x.drop(7), 40);
        e.due("count(0)", x.count(0), 0);
        e.isNull("set(7, 0, 1)", x.set(7, 0, 1));
        e.isNull("copy(0, 0, 7, 0, 0)", x.copy(0, 0, 7, 0, 0));
        e.due("it comes again", x.row(7, 0, 3), 3);
        e.due("another one", x.drop(7), 3);
    }

    private static void promise5Bad() {
        Edge e = Edge.of(5, "BAD");
        WindTaken x = new WindTaken();
        x.row(0, 0, 1);
        e.badFor("drop(#)", NO_ROWS, row -> x.drop(row));
        e.due("none is missing", x.count(0), 1);
    }

    private static void promise5Null() {
        Edge e = Edge.of(5, "NULL.");
        WindTaken x = new WindTaken();
        e.isNull("one that never was", x.drop(0));
        x.row(0, 0, 5);
        x.drop(0);
        e.isNull("one that was dropped", x.drop(0));
        e.due("status()", x.status(), 1);
    }

    private static void promise32TheLatestCall() {
        Edge e = Edge.of(32, "Of the latest call with a ROW, or as(), that was not BAD, STATE, FULL: "
            + "the number of its FINDING");
        WindTaken x = Texts.ridgeOf("law 0 0 0; mill water 0 0 1 1 0 9;");
        x.drop(0);
        e.due("of drop, NULL", x.status(), 1);
        x.row(0, 0, 1);
        x.set(0, 1, 0);
        e.due("of set, PLACE", x.status(), 2);
        x.as(0, 1);
        e.due("of as, KIND", x.status(), 3);
        x.row(1, 1, -1);
        e.due("of row, SIZE", x.status(), 4);
        x.row(1, 1, 1);
        x.copy(0, 0, 1, 0, 1);
        e.due("of copy, STORE", x.status(), 5);
        x.hours(2, 0, 1);
        e.due("of hours, NULL", x.status(), 1);
        x.hours(0, 0, 2);
        e.due("of hours, PLACE", x.status(), 2);
        x.night(0, 0, 1, 2, -1);
        e.due("of night, NULL", x.status(), 1);
        x.row(1, 1, 0);
        x.night(0, 0, 1, 1, -1);
        e.due("of night, PLACE", x.status(), 2);
    }

    private static void promise32NotOfRefusals() {
        Edge e = Edge.of(32, "that was not BAD, STATE, FULL");
        WindTaken x = new WindTaken();
        x.drop(0);
        x.row(0, 0, 41);
        x.row(8, 0, 1);
        x.set(8, 0, 1);
        x.copy(8, 0, 0, 0, 1);
        x.drop(8);
        x.as(0, 0);
        e.due("BAD", x.status(), 1);
        x.row(1, 0, 0);
        x.set(1, 0, 0);
        x.hours(0, 0, 1);
        x.night(0, 0, 1, 0, -1);
        e.due("STATE", x.status(), 2);
        Texts.read(x, "law 0 0 0; mill water 0 0 1 1 0 9; mill ruin 1 0 9 1 0 9;");
        x.row(0, 1, 1);
        x.set(0, 0, 101);
        x.as(0, 3);
        x.hours(0, 0, 1);
        x.hours(0, 0, 25);
        x.night(0, 0, 1, 0, -2);
        x.as(2, 0);
        x.as(0, 6);
        e.due("BAD, with a RIDGE", x.status(), 3);
        x.build(1);
        x.feed(0L, 0);
        x.face(1, 0);
        x.ridge();
        x.hour(0, 0);
        x.ask(0, 0);
        x.image(0);
        x.restore(0);
        e.due("calls without a ROW", x.status(), 3);
    }

    private static void promise32None() {
        Edge e = Edge.of(32, "; 0: it had none, or there was none.");
        WindTaken x = new WindTaken();
        e.due("there was none", x.status(), 0);
        x.hour(0, 0);
        x.row(0, 3, 1);
        e.due("there was but a refused one", x.status(), 0);
        String[] calls = {"row", "set", "copy", "drop", "hours", "night", "night, NONE", "as"};
        Texts.read(x, "law 0 0 0; mill water 0 0 1 1 0 9;");
        for (int k = 0; k < calls.length; k++) {
            x.row(0, 2, 1);
            x.row(1, 2, 1);
            x.drop(7);
            e.due("ahead of " + calls[k], x.status(), 1);
            switch (k) {
                case 0: x.row(0, 2, 2); break;
                case 1: x.set(0, 0, 1); break;
                case 2: x.copy(0, 0, 1, 0, 1); break;
                case 3: x.drop(0); break;
                case 4: x.hours(1, 0, 1); break;
                case 5: x.night(0, 0, 1, 1, -1); break;
                case 6: x.night(0, 0, 1, 1, 99); break;
                default: x.as(0, 4); break;
            }
            e.due("by " + calls[k], x.status(), 0);
        }
    }
}
