/** The sentences at the beginning of the Terms, which hold for all calls. */
final class TermEdges {
    private static final String THREE = "law 50 50 0; mill hooded 5 5 1 1 1 99;"
        + "mill half 5 6 1 4 9 99; mill ruin 9 9 9 1 5 99;";

    private TermEdges() {
    }

    static void run() {
        callsUpTo512();
        numbersFrom0();
        theEighthMill();
        noNinthMill();
        cutTowards0();
        setsAreBits();
        firstThatFits();
        butAsTold();
        bad();
        state();
        full();
        firstInTime();
        nullFinding();
        placeFinding();
        kindFinding();
        sizeFinding();
        storeFinding();
        refusedChangesNothing();
        foundChangesStatusAlone();
    }

    private static void callsUpTo512() {
        Edge e = Edge.ofTerms("An object is used for at most 512 calls after it has been made;");
        String text = "law 0 0 0; mill water 0 0 1 1 0 999;";
        WindTaken x = Texts.ridgeOf(text);
        int calls = (text.length() + 7) / 8 + 2;
        int hours = 0;
        while (calls < 511) {
            x.hour(0, 0);
            hours++;
            calls++;
        }
        e.due("call 512: count(2)", x.count(2), hours);
        x = new WindTaken();
        for (int call = 1; call <= 511; call++) {
            x.row(call % 8, call % 3, call % 41);
        }
        e.due("call 512: drop(7), of row(7, 1, 19)", x.drop(7), 511 % 41);
    }

    private static void numbersFrom0() {
        Edge e = Edge.ofTerms("Numbers go from 0 on.");
        WindTaken x = Texts.ridgeOf(THREE);
        e.due("kind(0), the first MILL", x.kind(0), 2);
        e.bad("kind(3), of three", x.kind(3));
        e.due("row(0, 0, 1), the first ROW", x.row(0, 0, 1), 1);
        e.due("set(0, 0, 9), the first ITEM", x.set(0, 0, 9), 9);
        e.place("set(0, 1, 9), of one", x.set(0, 1, 9));
        e.due("image(0), the first IMAGE", x.image(0), 1);
        e.due("ask(0, 1), of MILL 0: 0 and 10, less 1", x.ask(0, 1), 9);
        e.due("trace(0), the first BODY", x.trace(0), 22);
    }

    /** Eight beside one another, by 100 of north wind they grind 10, 20 and so on, up to 80. */
    private static WindTaken eight() {
        StringBuilder text = new StringBuilder("law 90 50 0;");
        for (int i = 0; i < 8; i++) {
            text.append("mill hooded ").append(i).append(" 0 1 ").append(i + 1).append(' ').append(i).append(" 99;");
        }
        return Texts.ridgeOf(text.toString());
    }

    private static void theEighthMill() {
        Edge e = Edge.ofTerms("MILLS 0 .. 7");
        WindTaken x = eight();
        e.due("made(0, 100, 128)", x.made(0, 100, 128), 280);
        e.due("best(0, 100, 0)", x.best(0, 100, 0), 360);
        e.due("part(0, 100, 7)", x.part(0, 100, 7), 0);
        e.due("best(3, 100, 1): the first and the last are out of reach of one another", x.best(3, 100, 1), 126);
        e.due("best(3, 100, 0)", x.best(3, 100, 0), 10 + 80);
        e.due("part(3, 100, 1)", x.part(3, 100, 1), 2);
        e.due("part(3, 100, 7)", x.part(3, 100, 7), 0);
        e.due("part(3, 100, 0): 90 less 12, less 2", x.part(3, 100, 0), 76);
        e.due("still(0, 100, 7, 0, 1)", x.still(0, 100, 7, 0, 1), 80);
        e.due("still(3, 100, 6, 7, 0): 1 is left, or 1", x.still(3, 100, 6, 7, 0), 0);
        e.due("higher(3, 100, 7, 0)", x.higher(3, 100, 7, 0), 80);
        e.due("owes(3, 100, 6, 7)", x.owes(3, 100, 6, 7), 0);
        e.due("hour(0, 100)", x.hour(0, 100), 360);
        e.due("count(3)", x.count(3), 360);
        e.due("years(1, 1, -1): (3, 65), 65 is left at the first", x.years(1, 1, -1), 6 + 1);
        e.due("ask(7, 1)", x.ask(7, 1), 7 + 10 - 7);
        e.due("as(7, 1)", x.as(7, 1), 7);
        e.due("face(7, 3)", x.face(7, 3), 0);
        e.due("build(7)", x.build(7), 2);
        e.due("bring(7, 999)", x.bring(7, 999), 99 - 80 + 999);
        e.due("furl(7, 1)", x.furl(7, 1), 0);
        e.due("count(4)", x.count(4), 1);
        x.row(0, 0, 8);
        e.due("night(0, 0, 1, 0, -1)", x.night(0, 0, 1, 0, -1), 128);
        x.row(0, 0, 7);
        e.place("night(0, 0, 1, 0, -1), of 7 ITEMS", x.night(0, 0, 1, 0, -1));
    }

    private static void noNinthMill() {
        Edge e = Edge.ofTerms("MILLS 0 .. 7, 8 at most).");
        WindTaken x = eight();
        int[] refused = {x.furl(8, 0), x.face(8, 0), x.build(8), x.bring(8, 0), x.mill(8, 0), x.left(8, 0, 0, 0),
            x.part(0, 0, 8), x.still(0, 0, 8, 0, 0), x.still(0, 0, 0, 8, 0), x.higher(0, 0, 8, 0), x.owes(0, 0, 8, 0),
            x.owes(0, 0, 0, 8), x.years(1, 1, 8), x.kind(8), x.as(8, 0), x.ask(8, 0)};
        for (int k = 0; k < refused.length; k++) {
            e.bad("a call of MILL 8, number " + k, refused[k]);
        }
    }

    private static void cutTowards0() {
        Edge e = Edge.ofTerms("All that is divided is cut towards 0.");
        WindTaken x = Texts.ridgeOf("law 33 33 0; mill hooded 5 5 1 1 1 99; mill half 5 6 1 4 9 99;");
        e.due("WIND LEFT: 33 times 100 by 100", x.left(1, 0, 100, 0), 67);
        e.due("WIND LEFT: 33 times 3 by 100", x.left(1, 0, 3, 0), 3);
        e.due("WIND LEFT: 33 times 4 by 100", x.left(1, 0, 4, 0), 3);
        e.due("GRINDS: 99 by 10, 66 times 4 by 20", x.made(0, 99, 0), 9 + 13);
        e.due("GRINDS: 9 by 10, 7 times 4 by 20", x.made(0, 9, 0), 0 + 1);
        e.due("OWED: 33 times (20 less 13) by 100", x.owes(0, 100, 0, 1), 2);
        x.hour(0, 99);
        e.due("WEAR: 99 by 10", x.mill(0, 5), 9);
        e.due("WEAR: 67 by 10", x.mill(1, 5), 6);
    }

    private static void setsAreBits() {
        Edge e = Edge.ofTerms("Sets are bits.");
        WindTaken x = Texts.ridgeOf("law 50 0 0; mill water 0 0 1 1 0 99; mill water 1 0 1 2 0 99; mill "
            + "water 2 0 1 4 0 99;");
        for (int set = 0; set < 8; set++) {
            e.due("made(0, 0, " + set + ")", x.made(0, 0, set), 5 * (7 - set));
        }
        e.due("left(0, 1, 0, 1), behind 1 and 2", x.left(0, 1, 0, 1), 6);
        Texts.rowOf(x, 0, 10, 0);
        e.due("night(0, 0, 1, 0, 0), 0 and 2", x.night(0, 0, 1, 0, 0), 5);
    }

    private static void firstThatFits() {
        Edge e = Edge.ofTerms("Refusals are answers, the first of these that fits");
        WindTaken x = new WindTaken();
        e.bad("BAD ahead of STATE: image(2), no RIDGE", x.image(2));
        e.bad("BAD ahead of STATE: restore(-1), none kept", x.restore(-1));
        Texts.read(x, THREE);
        e.bad("BAD ahead of STATE: face(2, 4), a ruin", x.face(2, 4));
        Texts.feed(x, " ".repeat(400));
        e.bad("BAD ahead of FULL: feed(0, 9)", x.feed(0L, 9));
        e.bad("BAD ahead of SIZE: row(0, 3, -1)", x.row(0, 3, -1));
        e.bad("BAD ahead of NULL: copy(0, 0, 8, 0, 0)", x.copy(0, 0, 8, 0, 0));
        e.bad("BAD ahead of KIND: as(0, 6)", x.as(0, 6));
        e.bad("BAD ahead of NULL: hours(0, 0, 25)", x.hours(0, 0, 25));
    }

    private static void butAsTold() {
        Edge e = Edge.ofTerms(", but as told:");
        WindTaken x = new WindTaken();
        e.state("STATE ahead of BAD: hour(4, 101)", x.hour(4, 101));
        e.state("STATE ahead of BAD: hours(8, 0, 0)", x.hours(8, 0, 0));
        e.state("STATE ahead of BAD: made(4, 101, 256)", x.made(4, 101, 256));
        e.state("STATE ahead of BAD: best(4, 101, 2)", x.best(4, 101, 2));
        e.state("STATE ahead of BAD: night(4, 101, 0, 8, -2)", x.night(4, 101, 0, 8, -2));
        e.state("STATE ahead of BAD: years(0, 0, -2)", x.years(0, 0, -2));
        Texts.read(x, THREE);
        x.row(0, 2, 1);
        x.set(0, 0, 101);
        e.place("PLACE ahead of BAD: hours(0, 1, 1), an ITEM that is no wind", x.hours(0, 1, 1));
        e.bad("hours(0, 0, 1)", x.hours(0, 0, 1));
    }

    private static void bad() {
        Edge e = Edge.ofTerms("BAD (a number is not as told; there is no such thing)");
        e.due("BAD", WindTaken.BAD, -1000001);
        e.due("NONE", WindTaken.NONE, -1000000);
        WindTaken x = Texts.ridgeOf(THREE);
        e.due("a strength of 101", x.hour(0, 101), -1000001);
        e.due("no such MILL", x.build(3), -1000001);
        e.due("no such ROW", x.drop(8), -1000001);
        e.due("no such count", x.count(6), -1000001);
    }

    private static void state() {
        Edge e = Edge.ofTerms("STATE (as told)");
        e.due("STATE", WindTaken.STATE, -1000002);
        WindTaken x = new WindTaken();
        e.due("hour(0, 0), no RIDGE", x.hour(0, 0), -1000002);
        Texts.read(x, THREE);
        e.due("face(2, 1), a ruin", x.face(2, 1), -1000002);
        e.due("restore(0), none kept", x.restore(0), -1000002);
    }

    private static void full() {
        Edge e = Edge.ofTerms("FULL (as told)");
        e.due("FULL", WindTaken.FULL, -1000003);
        WindTaken x = Texts.ridgeOf(THREE);
        e.due("build(2), of 9", x.build(2), -1000003);
        Texts.feed(x, " ".repeat(400));
        e.due("feed(0, 1), behind 400", x.feed(0L, 1), -1000003);
    }

    private static void firstInTime() {
        Edge e = Edge.ofTerms("then FINDINGS, of several the first in time:");
        WindTaken x = Texts.ridgeOf(THREE);
        x.row(0, 0, 1);
        x.row(1, 1, 1);
        e.isNull("set(2, -1, 0): no ROW, so no place of it", x.set(2, -1, 0));
        e.isNull("copy(2, -1, 0, 9, -1)", x.copy(2, -1, 0, 9, -1));
        e.store("copy(0, -1, 1, 9, -1)", x.copy(0, -1, 1, 9, -1));
        e.isNull("hours(2, -1, 1)", x.hours(2, -1, 1));
        e.isNull("night(0, 0, 1, 2, -1)", x.night(0, 0, 1, 2, -1));
    }

    private static void nullFinding() {
        Edge e = Edge.ofTerms("-1000010 less 1 NULL (a ROW that is missing)");
        WindTaken x = Texts.ridgeOf(THREE);
        x.row(7, 0, 0);
        e.due("set(0, 0, 0)", x.set(0, 0, 0), -1000011);
        e.due("copy(0, 0, 7, 0, 0)", x.copy(0, 0, 7, 0, 0), -1000011);
        e.due("copy(7, 0, 0, 0, 0)", x.copy(7, 0, 0, 0, 0), -1000011);
        e.due("drop(0)", x.drop(0), -1000011);
        e.due("hours(0, 0, 1)", x.hours(0, 0, 1), -1000011);
        e.due("night(0, 0, 1, 0, 0)", x.night(0, 0, 1, 0, 0), -1000011);
        e.due("status()", x.status(), 1);
    }

    private static void placeFinding() {
        Edge e = Edge.ofTerms("2 PLACE (no such place of a ROW)");
        WindTaken x = Texts.ridgeOf(THREE);
        x.row(0, 0, 2);
        e.due("set(0, 2, 0)", x.set(0, 2, 0), -1000012);
        e.due("copy(0, 0, 0, 1, 2)", x.copy(0, 0, 0, 1, 2), -1000012);
        e.due("hours(0, 0, 3)", x.hours(0, 0, 3), -1000012);
        e.due("night(0, 0, 1, 0, 0)", x.night(0, 0, 1, 0, 0), -1000012);
        e.due("status()", x.status(), 2);
    }

    private static void kindFinding() {
        Edge e = Edge.ofTerms("3 KIND (a MILL that is not that)");
        WindTaken x = Texts.ridgeOf(THREE);
        e.due("as(0, 3), a hooded one", x.as(0, 3), -1000013);
        e.due("status()", x.status(), 3);
        e.due("as(1, 3), a half one", x.as(1, 3), 1);
        e.due("status()", x.status(), 0);
    }

    private static void sizeFinding() {
        Edge e = Edge.ofTerms("4 SIZE (fewer than none)");
        WindTaken x = new WindTaken();
        e.due("row(0, 0, -1)", x.row(0, 0, -1), -1000014);
        e.due("status()", x.status(), 4);
        e.due("row(0, 0, 0)", x.row(0, 0, 0), 0);
        e.due("status()", x.status(), 0);
    }

    private static void storeFinding() {
        Edge e = Edge.ofTerms("5 STORE (ROWS of two LANES).");
        WindTaken x = new WindTaken();
        x.row(0, 0, 1);
        x.row(1, 2, 1);
        e.due("copy(0, 0, 1, 0, 1)", x.copy(0, 0, 1, 0, 1), -1000015);
        e.due("copy(1, 0, 0, 0, 1)", x.copy(1, 0, 0, 0, 1), -1000015);
        e.due("status()", x.status(), 5);
    }

    /** A ridge that was changed, a row of 3 and 7, an image, a tape of 396 bytes. */
    private static WindTaken changed() {
        WindTaken x = Texts.ridgeOf(THREE);
        Texts.rowOf(x, 3, 7);
        x.hour(0, 100);
        x.furl(1, 1);
        x.face(0, 3);
        x.ask(1, 0);
        x.image(0);
        Texts.feed(x, " ".repeat(396));
        x.drop(5);
        return x;
    }

    private static void refusedChangesNothing() {
        Edge e = Edge.ofTerms("What is refused, or found, changes nothing but status().");
        WindTaken x = changed();
        int[] before = Texts.seen(x);
        int[] refused = {x.row(0, 3, 1), x.row(0, 0, 41), x.set(8, 0, 1), x.copy(0, 0, 8, 0, 1), x.drop(-1),
            x.feed(0L, 0), x.feed(0L, 5), x.furl(3, 1), x.furl(0, 2), x.face(0, 4), x.face(2, 1), x.build(3),
            x.build(2), x.bring(0, 1000), x.bring(0, -1), x.hour(4, 100), x.hour(0, 101), x.hours(0, 0, 0),
            x.hours(8, 0, 1), x.mill(0, 10), x.left(0, 0, 101, 1), x.made(0, 100, 256), x.best(0, 100, 2),
            x.part(0, 100, 3), x.still(0, 100, 1, 1, 0), x.higher(0, 100, 0, 3), x.owes(0, 100, 1, 1),
            x.night(0, 100, 25, 0, 0), x.years(1001, 1, -1), x.image(2), x.restore(2), x.restore(1), x.kind(3),
            x.as(0, 6), x.ask(0, 2), x.ask(3, 0), x.count(6)};
        for (int k = 0; k < refused.length; k++) {
            e.holds("refusal " + k + " is BAD, STATE or FULL", refused[k] >= -1000003 && refused[k] <= -1000001);
        }
        e.dueAll("behind all that is refused", Texts.seen(x), before);
        e.due("status()", x.status(), 1);
        e.due("the tape: 396 blanks", x.ridge(), -1000496);
        e.due("the image", x.restore(0), 1);
        e.due("its hours", x.count(2), 1);
        e.holds("the ROW's items", Texts.begins(x, 0, 3, 7));
    }

    private static void foundChangesStatusAlone() {
        Edge e = Edge.ofTerms("or found, changes nothing but status().");
        WindTaken x = changed();
        x.row(1, 0, 2);
        int[] before = Texts.seen(x);
        e.size("row(0, 1, -1)", x.row(0, 1, -1));
        e.isNull("set(2, 0, 1)", x.set(2, 0, 1));
        e.place("set(0, 2, 1)", x.set(0, 2, 1));
        e.store("copy(0, 0, 1, 0, 2)", x.copy(0, 0, 1, 0, 2));
        e.place("copy(0, 0, 0, 1, 2)", x.copy(0, 0, 0, 1, 2));
        e.isNull("drop(2)", x.drop(2));
        e.isNull("hours(2, 0, 1)", x.hours(2, 0, 1));
        e.place("hours(0, 0, 3)", x.hours(0, 0, 3));
        e.isNull("night(0, 0, 1, 2, 0)", x.night(0, 0, 1, 2, 0));
        e.place("night(0, 0, 1, 0, 0)", x.night(0, 0, 1, 0, 0));
        e.kind("as(0, 3)", x.as(0, 3));
        e.due("status()", x.status(), 3);
        e.dueAll("behind all that is found", Texts.seen(x), before);
        x.ridge();
        e.holds("the ROW's items", Texts.begins(x, 0, 3, 7));
        e.holds("the other's", Texts.begins(x, 1, 0, 0));
    }
}
