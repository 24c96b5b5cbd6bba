/** Promises 17 to 24: what is foretold of an hour, of a night, of years. */
final class ForetoldTests {
    /** Three behind one another from the north: by 100 of wind they grind 40, 25, 11. */
    private static final String THREE = "law 50 20 5; mill hooded 5 5 3 4 10 900;"
        + "mill hooded 5 7 3 5 40 900; mill half 5 9 3 9 60 900;";
    /** The same, but the first has one sail: furled, it lets more be made; it is number 1. */
    private static final String WEAK = "law 50 20 15; mill hooded 5 7 3 5 40 900;"
        + "mill hooded 5 5 3 1 10 900; mill half 5 9 3 9 60 900;";

    private ForetoldTests() {
    }

    static void run() {
        made();
        best();
        bestOfSeveral();
        part();
        partRefused();
        still();
        stillRefused();
        higher();
        higherRefused();
        owes();
        owesRefused();
        night();
        nightOfFew();
        nightRefused();
        years();
        yearsRefused();
        nothingChanges();
    }

    private static void made() {
        WindTaken x = Texts.ridgeOf(THREE);
        int[] wanted = {76, 72, 62, 45, 65, 50, 40, 0};
        for (int set = 0; set < 8; set++) {
            Check.due("made by " + set, x.made(0, 100, set), wanted[set]);
        }
        Check.due("others are no mills", x.made(0, 100, 248), 76);
        x.furl(0, 1);
        Check.due("beside the furled", x.made(0, 100, 0), 72);
        Check.due("the same anew", x.made(0, 100, 1), 72);
        Check.due("and another", x.made(0, 100, 2), 45);
        x.furl(0, 0);
        Check.due("from the south", x.made(2, 100, 0), 10 + 25 + 45);
        Check.due("set 256", x.made(0, 100, 256), WindTaken.BAD);
        Check.due("set -1", x.made(0, 100, -1), WindTaken.BAD);
        Check.due("quarter 4", x.made(4, 100, 0), WindTaken.BAD);
        Check.due("quarter -1", x.made(-1, 100, 0), WindTaken.BAD);
        Check.due("strength 101", x.made(0, 101, 0), WindTaken.BAD);
        Check.due("strength -1", x.made(0, -1, 0), WindTaken.BAD);
        Check.due("state ahead of bad", new WindTaken().made(4, 0, 0), WindTaken.STATE);
    }

    private static void best() {
        WindTaken x = Texts.ridgeOf(THREE);
        Check.due("none furled", x.best(0, 100, 0), 76);
        Check.due("the set of none", x.best(0, 100, 1), 0);
        x = Texts.ridgeOf(WEAK);
        Check.due("the weak one furled", x.best(0, 100, 0), 72);
        Check.due("its set", x.best(0, 100, 1), 2);
        Check.due("nobody is behind it", x.best(2, 100, 1), 0);
        x.furl(1, 1);
        Check.due("it is furled", x.best(0, 100, 0), 72);
        Check.due("so none", x.best(0, 100, 1), 0);
        Check.due("what 2", x.best(0, 100, 2), WindTaken.BAD);
        Check.due("what -1", x.best(0, 100, -1), WindTaken.BAD);
        Check.due("quarter 4", x.best(4, 100, 0), WindTaken.BAD);
        Check.due("quarter -1", x.best(-1, 100, 0), WindTaken.BAD);
        Check.due("strength 101", x.best(0, 101, 0), WindTaken.BAD);
        Check.due("strength -1", x.best(0, -1, 0), WindTaken.BAD);
        Check.due("state ahead of bad", new WindTaken().best(4, 0, 0), WindTaken.STATE);
    }

    private static void bestOfSeveral() {
        WindTaken x = Texts.ridgeOf("law 50 0 0; mill hooded 4 5 1 1 0 99; mill hooded 6 5 1 1 0 99;"
            + "mill hooded 5 7 1 9 0 45;");
        Check.due("one of two", x.best(0, 100, 0), 55);
        Check.due("the least", x.best(0, 100, 1), 1);
        x = Texts.ridgeOf("law 50 0 0; mill hooded 3 6 1 1 0 0; mill hooded 7 6 1 1 0 0;"
            + "mill hooded 5 5 1 1 0 0; mill hooded 4 7 1 9 0 45; mill hooded 6 7 1 9 0 45;");
        Check.due("two, or one", x.made(0, 100, 3), 90);
        Check.due("one, or two", x.best(0, 100, 0), 90);
        Check.due("the fewest, not the least", x.best(0, 100, 1), 4);
        x = Texts.ridgeOf("law 0 0 0; mill hooded 3 6 1 1 0 0; mill hooded 7 6 1 1 0 0;");
        Check.due("nothing at all", x.best(0, 100, 0), 0);
        Check.due("none", x.best(0, 100, 1), 0);
    }

    private static void part() {
        WindTaken x = Texts.ridgeOf(WEAK);
        Check.due("all that is left", x.part(0, 100, 0), 16);
        Check.due("what it lost", x.part(0, 100, 1), 10);
        Check.due("no less", x.part(0, 100, 2), 0);
        Check.due("nothing more: 0", x.part(2, 100, 0), 0);
        Check.due("nothing more: 1", x.part(2, 100, 1), 0);
        x = Texts.ridgeOf("law 50 20 5; mill hooded 5 5 3 1 10 900;"
            + "mill hooded 5 7 3 5 40 900; mill half 5 9 3 9 60 900;");
        Check.due("what it lost, too", x.part(0, 100, 0), 26);
        x = Texts.ridgeOf("law 50 20 5; mill hooded 5 5 3 2 10 900;"
            + "mill hooded 5 7 3 5 40 900; mill half 5 9 3 8 60 900;");
        Check.due("made", x.made(0, 100, 0), 20 + 25 + 10);
        Check.due("furled", x.made(0, 100, 1), 50 + 20);
        Check.due("more is lost than won: 0", x.part(0, 100, 0), WindTaken.NONE);
        Check.due("more is lost than won: 2", x.part(0, 100, 2), WindTaken.NONE);
        x = Texts.ridgeOf("law 50 0 0; mill hooded 5 7 3 8 0 900; mill hooded 5 5 3 2 0 900;");
        Check.due("just as much", x.part(0, 100, 1), 20);
        Check.due("nothing is left", x.part(0, 100, 0), 0);
    }

    private static void partRefused() {
        WindTaken x = Texts.ridgeOf(THREE);
        Check.due("quarter 4", x.part(4, 100, 0), WindTaken.BAD);
        Check.due("quarter -1", x.part(-1, 100, 0), WindTaken.BAD);
        Check.due("strength 101", x.part(0, 101, 0), WindTaken.BAD);
        Check.due("strength -1", x.part(0, -1, 0), WindTaken.BAD);
        Check.due("mill 3", x.part(0, 100, 3), WindTaken.BAD);
        Check.due("mill -1", x.part(0, 100, -1), WindTaken.BAD);
        Check.due("no ridge", new WindTaken().part(0, 100, 0), WindTaken.BAD);
    }

    private static void still() {
        WindTaken x = Texts.ridgeOf(THREE);
        dueStill(x, 0, 1, 25, 40, 0);
        dueStill(x, 0, 2, 11, 40, 0);
        dueStill(x, 1, 2, 11, 25, 0);
        dueStill(x, 1, 0, 0, 25, 0);
        x = Texts.ridgeOf(WEAK);
        dueStill(x, 1, 0, 25, 10, 1);
        dueStill(x, 1, 2, 11, 10, 0);
        x.furl(1, 1);
        dueStill(x, 1, 0, 0, 0, 0);
        x = Texts.ridgeOf("law 50 20 16; mill hooded 5 7 3 5 40 900; mill hooded 5 5 3 1 10 900;");
        dueStill(x, 1, 0, 25, 10, 0);
        x = Texts.ridgeOf("law 50 20 0; mill hooded 5 7 3 5 40 30; mill hooded 5 5 3 1 10 900;");
        dueStill(x, 1, 0, 5, 10, 0);
        x.furl(1, 1);
        dueStill(x, 1, 0, 0, 0, 1);
    }

    private static void dueStill(WindTaken x, int a, int b, int gain, int loss, int deal) {
        Check.due(b + " gains by " + a, x.still(0, 100, a, b, 0), gain);
        Check.due(a + " loses for " + b, x.still(0, 100, a, b, 1), loss);
        Check.due(a + " and " + b + " deal", x.still(0, 100, a, b, 2), deal);
    }

    private static void stillRefused() {
        WindTaken x = Texts.ridgeOf(THREE);
        Check.due("alike", x.still(0, 100, 1, 1, 0), WindTaken.BAD);
        Check.due("a 3", x.still(0, 100, 3, 1, 0), WindTaken.BAD);
        Check.due("a -1", x.still(0, 100, -1, 1, 0), WindTaken.BAD);
        Check.due("b 3", x.still(0, 100, 0, 3, 0), WindTaken.BAD);
        Check.due("b -1", x.still(0, 100, 0, -1, 0), WindTaken.BAD);
        Check.due("what 3", x.still(0, 100, 0, 1, 3), WindTaken.BAD);
        Check.due("what -1", x.still(0, 100, 0, 1, -1), WindTaken.BAD);
        Check.due("quarter 4", x.still(4, 100, 0, 1, 0), WindTaken.BAD);
        Check.due("quarter -1", x.still(-1, 100, 0, 1, 0), WindTaken.BAD);
        Check.due("strength 101", x.still(0, 101, 0, 1, 0), WindTaken.BAD);
        Check.due("strength -1", x.still(0, -1, 0, 1, 0), WindTaken.BAD);
    }

    private static void higher() {
        WindTaken x = Texts.ridgeOf("law 50 0 0; mill hooded 5 5 2 4 0 900;"
            + "mill hooded 5 7 2 5 0 900; mill hooded 5 9 3 6 0 900; mill hooded 5 11 9 2 0 900;");
        dueHigher(x, 0, 0, 30, 25);
        dueHigher(x, 1, 25, 30, 0);
        dueHigher(x, 2, 0, 0, 0);
        dueHigher(x, 3, 0, 0, 0);
        x.furl(0, 1);
        dueHigher(x, 0, 0, 0, 0);
        dueHigher(x, 1, 0, 30, 0);
        x.furl(0, 0);
        x.furl(1, 1);
        dueHigher(x, 1, 0, 0, 0);
        x = Texts.ridgeOf("law 50 0 0; mill water 5 5 2 4 0 900; mill hooded 5 7 2 5 0 900;");
        dueHigher(x, 0, 0, 0, 0);
        x = Texts.ridgeOf("law 50 0 0; mill hooded 5 5 2 4 0 900; mill hooded 5 7 4 5 0 900;"
            + "mill hooded 5 3 3 5 0 900;");
        dueHigher(x, 0, 0, 0, 0);
        x.build(0);
        dueHigher(x, 0, 20, 25, 0);
    }

    private static void dueHigher(WindTaken x, int mill, int gain, int loss, int felled) {
        int floors = x.mill(mill, 0);
        Check.due("a floor more brings " + mill, x.higher(0, 100, mill, 0), gain);
        Check.due("a floor more costs beside " + mill, x.higher(0, 100, mill, 1), loss);
        Check.due("felled: " + mill, x.higher(0, 100, mill, 2), felled);
        Check.due("floors stay", x.mill(mill, 0), floors);
    }

    private static void higherRefused() {
        WindTaken x = Texts.ridgeOf(THREE);
        Check.due("mill 3", x.higher(0, 100, 3, 0), WindTaken.BAD);
        Check.due("mill -1", x.higher(0, 100, -1, 0), WindTaken.BAD);
        Check.due("what 3", x.higher(0, 100, 0, 3), WindTaken.BAD);
        Check.due("what -1", x.higher(0, 100, 0, -1), WindTaken.BAD);
        Check.due("quarter 4", x.higher(4, 100, 0, 0), WindTaken.BAD);
        Check.due("quarter -1", x.higher(-1, 100, 0, 0), WindTaken.BAD);
        Check.due("strength 101", x.higher(0, 101, 0, 2), WindTaken.BAD);
        Check.due("strength -1", x.higher(0, -1, 0, 2), WindTaken.BAD);
    }

    private static void owes() {
        WindTaken x = Texts.ridgeOf(THREE);
        Check.due("20 of 25", x.owes(0, 100, 0, 1), 5);
        Check.due("20 of 11", x.owes(0, 100, 0, 2), 2);
        Check.due("1 to 2", x.owes(0, 100, 1, 2), 2);
        Check.due("not behind it", x.owes(0, 100, 1, 0), 0);
        Check.due("not behind it, of more age", x.owes(2, 100, 0, 1), 0);
        Check.due("of less age", x.owes(2, 100, 1, 0), 0);
        x.furl(0, 1);
        Check.due("a furled one", x.owes(0, 100, 0, 1), 0);
        x.furl(0, 0);
        x.furl(1, 1);
        Check.due("to a furled one", x.owes(0, 100, 0, 1), 0);
        x = Texts.ridgeOf("law 50 50 0; mill fixed 5 5 1 4 10 900; mill hooded 5 7 1 9 10 900;"
            + "mill hooded 5 8 1 9 11 30; mill water 6 4 1 1 0 900;");
        Check.due("of the same age", x.owes(0, 100, 0, 1), 0);
        Check.due("its corn ends", x.owes(0, 100, 0, 2), (30 - 22) / 2);
        Check.due("a water one", x.owes(0, 100, 3, 1), 0);
        x.face(0, 1);
        Check.due("it faces away", x.owes(0, 100, 0, 2), 0);
    }

    private static void owesRefused() {
        WindTaken x = Texts.ridgeOf(THREE);
        Check.due("alike", x.owes(0, 100, 1, 1), WindTaken.BAD);
        Check.due("a 3", x.owes(0, 100, 3, 1), WindTaken.BAD);
        Check.due("a -1", x.owes(0, 100, -1, 1), WindTaken.BAD);
        Check.due("b 3", x.owes(0, 100, 0, 3), WindTaken.BAD);
        Check.due("b -1", x.owes(0, 100, 0, -1), WindTaken.BAD);
        Check.due("quarter 4", x.owes(4, 100, 0, 1), WindTaken.BAD);
        Check.due("quarter -1", x.owes(-1, 100, 0, 1), WindTaken.BAD);
        Check.due("strength 101", x.owes(0, 101, 0, 1), WindTaken.BAD);
        Check.due("strength -1", x.owes(0, -1, 0, 1), WindTaken.BAD);
    }

    private static void night() {
        WindTaken x = Texts.ridgeOf(THREE);
        Texts.rowOf(x, 40, 25, 11, 99);
        dueNight(x, 1, 0);
        dueNight(x, 2);
        Texts.rowOf(x, 0, 50, 22);
        dueNight(x, 1, 1);
        Texts.rowOf(x, 0, 100, 44);
        dueNight(x, 2, 1);
        Texts.rowOf(x, 900, 600, 264);
        dueNight(x, 24, 0);
        Texts.rowOf(x, 0, 0, 0);
        dueNight(x, 5, 7);
        Texts.rowOf(x, 40, 25, 12);
        dueNight(x, 1);
        x.furl(0, 1);
        Texts.rowOf(x, 0, 50, 22);
        dueNight(x, 1, 0);
        Texts.rowOf(x, 0, 0, 45);
        dueNight(x, 1, 2);
    }

    /** Who grinds nothing in any case may have been furled, or not. */
    private static void nightOfFew() {
        WindTaken x = Texts.ridgeOf("law 0 0 0; mill ruin 0 0 1 1 0 9; mill hooded 9 9 1 5 0 90;"
            + "mill fixed 15 15 1 5 0 90; mill half 20 20 1 5 0 0;");
        Texts.rowOf(x, 0, 90, 0, 0);
        x.face(2, 1);
        dueNight(x, 2, 0, 1, 4, 5, 8, 9, 12, 13);
        x.furl(0, 1);
        dueNight(x, 2, 0, 4, 8, 12);
        Check.due("one byte short", x.row(1, 0, 3), 3);
        Check.due("place", x.night(0, 100, 2, 1, 0), -1000012);
        x.row(1, 0, 4);
        x.set(1, 1, 90);
        Check.due("bytes", x.night(0, 100, 2, 1, 3), 12);
        Check.due("far", x.night(0, 100, 2, 1, Integer.MAX_VALUE), WindTaken.NONE);
    }

    private static void dueNight(WindTaken x, int n, int... sets) {
        Check.due("how many by night", x.night(0, 100, n, 0, -1), sets.length);
        for (int i = 0; i < sets.length; i++) {
            Check.due("by night, number " + i, x.night(0, 100, n, 0, i), sets[i]);
        }
        Check.due("no more by night", x.night(0, 100, n, 0, sets.length), WindTaken.NONE);
    }

    private static void nightRefused() {
        WindTaken x = new WindTaken();
        Check.due("state ahead of bad", x.night(4, 101, 0, 9, -2), WindTaken.STATE);
        Texts.read(x, THREE);
        x.row(0, 2, 2);
        Check.due("quarter 4", x.night(4, 100, 1, 0, 0), WindTaken.BAD);
        Check.due("quarter -1", x.night(-1, 100, 1, 0, 0), WindTaken.BAD);
        Check.due("strength 101", x.night(0, 101, 1, 0, 0), WindTaken.BAD);
        Check.due("strength -1", x.night(0, -1, 1, 0, 0), WindTaken.BAD);
        Check.due("none", x.night(0, 100, 0, 0, 0), WindTaken.BAD);
        Check.due("25", x.night(0, 100, 25, 0, 0), WindTaken.BAD);
        Check.due("row 8", x.night(0, 100, 1, 8, 0), WindTaken.BAD);
        Check.due("row -1", x.night(0, 100, 1, -1, 0), WindTaken.BAD);
        Check.due("i -2", x.night(0, 100, 1, 0, -2), WindTaken.BAD);
        Check.due("bad ahead of null", x.night(0, 100, 25, 1, 0), WindTaken.BAD);
        Check.due("null", x.night(0, 100, 1, 1, 0), -1000011);
        Check.due("place", x.night(0, 100, 1, 0, -1), -1000012);
    }

    /** From seed 1 the winds are (3, 65), (1, 41), (2, 15). */
    private static void years() {
        WindTaken x = Texts.ridgeOf("law 50 0 0; mill hooded 5 5 1 4 0 0;");
        Check.due("one", x.years(1, 1, -1), 26);
        Check.due("two", x.years(2, 1, -1), 26 + 16);
        Check.due("three", x.years(3, 1, 0), 26 + 16 + 6);
        x = Texts.ridgeOf("law 50 0 0; mill fixed 5 5 1 4 0 0; mill hooded 4 5 1 2 0 0;"
            + "mill water 9 9 1 1 0 0; mill ruin 3 5 9 9 0 9;");
        x.face(0, 3);
        Check.due("fixed", x.years(3, 1, 0), (65 - 32) * 4 / 10);
        Check.due("behind none", x.years(3, 1, 1), 13 + 8 + 3);
        Check.due("water", x.years(3, 1, 2), 15);
        Check.due("a ruin", x.years(3, 1, 3), 0);
        Check.due("all", x.years(3, 1, -1), 13 + 24 + 15);
        x.face(0, 1);
        Check.due("fixed, turned", x.years(3, 1, 0), 16);
        Check.due("behind it", x.years(3, 1, 1), 13 + (41 - 20) * 2 / 10 + 3);
        x.furl(2, 1);
        Check.due("furled", x.years(1000, 999999, 2), 0);
        x.furl(2, 0);
        Check.due("most", x.years(1000, 999999, 2), 5000);
    }

    private static void yearsRefused() {
        WindTaken x = new WindTaken();
        Check.due("state ahead of bad", x.years(0, 0, 9), WindTaken.STATE);
        Texts.read(x, THREE);
        Check.due("none", x.years(0, 1, -1), WindTaken.BAD);
        Check.due("1001", x.years(1001, 1, -1), WindTaken.BAD);
        Check.due("seed 0", x.years(1, 0, -1), WindTaken.BAD);
        Check.due("seed 1000000", x.years(1, 1000000, -1), WindTaken.BAD);
        Check.due("mill -2", x.years(1, 1, -2), WindTaken.BAD);
        Check.due("mill 3", x.years(1, 1, 3), WindTaken.BAD);
    }

    private static void nothingChanges() {
        WindTaken x = Texts.ridgeOf(WEAK);
        Texts.rowOf(x, 1, 2, 3);
        int[] before = all(x);
        x.made(0, 100, 7);
        x.best(0, 100, 1);
        x.part(0, 100, 0);
        x.still(0, 100, 1, 0, 2);
        x.higher(0, 100, 1, 0);
        x.owes(0, 100, 1, 0);
        x.night(0, 100, 24, 0, -1);
        x.years(1000, 5, -1);
        Check.dueAll("nothing changes", all(x), before);
    }

    private static int[] all(WindTaken x) {
        int[] all = new int[36];
        for (int mill = 0; mill < 3; mill++) {
            for (int what = 0; what < 10; what++) {
                all[10 * mill + what] = x.mill(mill, what);
            }
        }
        for (int what = 0; what < 6; what++) {
            all[30 + what] = x.count(what);
        }
        return all;
    }
}
