/** Promises 9 to 16: what is done to mills, hours, and what is left of wind. */
final class HourTests {
    /** Two behind one another from the north, a half one behind both, a water one, a ruin. */
    private static final String RIDGE = "law 50 20 5;"
        + "mill fixed 5 5 3 4 10 100;"
        + "mill hooded 5 7 2 5 40 100;"
        + "mill half 6 9 1 9 5 50;"
        + "mill water 0 0 1 3 7 40;"
        + "mill ruin 4 6 9 9 99 9;";

    private HourTests() {
    }

    static void run() {
        furl();
        face();
        build();
        bring();
        hour();
        turning();
        hours();
        hoursRefused();
        mill();
        left();
        behind();
    }

    private static void furl() {
        WindTaken x = Texts.ridgeOf(RIDGE);
        Check.due("furl", x.furl(1, 1), 0);
        Check.due("it is", x.mill(1, 7), 1);
        Check.due("again", x.furl(1, 1), 1);
        Check.due("one furls", x.count(4), 1);
        Check.due("a ruin, too", x.furl(4, 1), 0);
        Check.due("two furl", x.count(4), 2);
        Check.due("unfurl", x.furl(1, 0), 1);
        Check.due("was not", x.furl(1, 0), 0);
        Check.due("mill -1", x.furl(-1, 0), WindTaken.BAD);
        Check.due("mill 5", x.furl(5, 0), WindTaken.BAD);
        Check.due("is 2", x.furl(0, 2), WindTaken.BAD);
        Check.due("is -1", x.furl(0, -1), WindTaken.BAD);
    }

    private static void face() {
        WindTaken x = Texts.ridgeOf(RIDGE);
        Check.due("face", x.face(0, 3), 0);
        Check.due("it does", x.mill(0, 6), 3);
        Check.due("faced", x.face(0, 1), 3);
        Check.due("water, too", x.face(3, 2), 0);
        Check.due("a ruin", x.face(4, 0), WindTaken.STATE);
        Check.due("bad ahead of state", x.face(4, 4), WindTaken.BAD);
        Check.due("quarter 4", x.face(0, 4), WindTaken.BAD);
        Check.due("quarter -1", x.face(0, -1), WindTaken.BAD);
        Check.due("mill 5", x.face(5, 0), WindTaken.BAD);
        Check.due("mill -1", x.face(-1, 0), WindTaken.BAD);
    }

    private static void build() {
        WindTaken x = Texts.ridgeOf(RIDGE);
        for (int floors = 4; floors <= 9; floors++) {
            Check.due("build", x.build(0), floors);
        }
        Check.due("full", x.build(0), WindTaken.FULL);
        Check.due("9", x.mill(0, 0), 9);
        Check.due("a ruin of 9", x.build(4), WindTaken.FULL);
        Check.due("mill 5", x.build(5), WindTaken.BAD);
        Check.due("mill -1", x.build(-1), WindTaken.BAD);
    }

    private static void bring() {
        WindTaken x = Texts.ridgeOf(RIDGE);
        Check.due("none", x.bring(0, 0), 100);
        Check.due("bring", x.bring(0, 999), 1099);
        Check.due("too much", x.bring(0, 1000), WindTaken.BAD);
        Check.due("less than none", x.bring(0, -1), WindTaken.BAD);
        Check.due("mill 5", x.bring(5, 1), WindTaken.BAD);
        Check.due("mill -1", x.bring(-1, 1), WindTaken.BAD);
        for (int i = 0; i < 99; i++) {
            x.bring(0, 999);
        }
        Check.due("most", x.bring(0, 0), 99999);
        Check.due("no more", x.bring(0, 1), 99999);
        Check.due("of that mill alone", x.bring(1, 0), 100);
    }

    private static void hour() {
        WindTaken x = Texts.ridgeOf(RIDGE);
        Check.due("hour", x.hour(0, 100), 40 + 25 + 11 + 15);
        dueOf(x, 0, 60, 40, 10);
        dueOf(x, 1, 75, 25, 5);
        dueOf(x, 2, 39, 11, 2);
        dueOf(x, 3, 25, 15, 0);
        dueOf(x, 4, 9, 0, 0);
        Check.due("hours gone", x.count(2), 1);
        Check.due("flour", x.count(3), 91);
        Check.due("second", x.hour(0, 100), 91);
        Check.due("third: corn ends", x.hour(0, 100), 20 + 25 + 11 + 10);
        dueOf(x, 0, 0, 100, 30);
        dueOf(x, 3, 0, 40, 0);
        Check.due("fourth", x.hour(0, 100), 25 + 11);
        dueOf(x, 0, 0, 100, 40);
        Check.due("strength 101", x.hour(0, 101), WindTaken.BAD);
        Check.due("strength -1", x.hour(0, -1), WindTaken.BAD);
        Check.due("quarter 4", x.hour(4, 0), WindTaken.BAD);
        Check.due("quarter -1", x.hour(-1, 0), WindTaken.BAD);
        Check.due("four gone", x.count(2), 4);
        Check.due("state ahead of bad", new WindTaken().hour(4, 0), WindTaken.STATE);
    }

    /** Who turns: a fixed one that faces the wind, a water one in a calm, no ruin, none furled. */
    private static void turning() {
        WindTaken x = Texts.ridgeOf(RIDGE);
        Check.due("calm", x.hour(2, 0), 15);
        Check.due("fixed turns away", x.hour(1, 100), 50 + 45 + 15);
        dueOf(x, 0, 100, 0, 0);
        x.face(0, 1);
        Check.due("fixed faces it", x.hour(1, 10), 4 + 5 + 4 + 10);
        x.furl(0, 1);
        x.furl(3, 1);
        Check.due("none of the furled", x.hour(1, 10), 5 + 1);
        dueOf(x, 0, 96, 4, 1);
        Check.due("the hooded one follows", x.mill(1, 6), 0);
    }

    private static void hours() {
        WindTaken x = Texts.ridgeOf(RIDGE);
        Texts.rowOf(x, 9999, 100, 0, 1010, 3100, 4000);
        Check.due("hours", x.hours(0, 1, 3), 91 + 15 + 5 + 4 + 10);
        dueOf(x, 0, 60, 40, 10);
        dueOf(x, 1, 70, 30, 6);
        dueOf(x, 2, 35, 15, 3);
        dueOf(x, 3, 0, 40, 0);
        Check.due("gone", x.count(2), 3);
        Check.due("one", x.hours(0, 4, 1), 50 + 35);
        Check.due("four", x.count(2), 4);
        x.row(1, 2, 25);
        Check.due("24", x.hours(1, 1, 24), 0);
        Check.due("25", x.hours(1, 0, 25), WindTaken.BAD);
        Check.due("28 gone", x.count(2), 28);
        x.row(1, 0, 1);
        x.set(1, 0, 100);
        Check.due("a byte's wind", x.hours(1, 0, 1), 40 + 20);
    }

    private static void hoursRefused() {
        WindTaken none = new WindTaken();
        Check.due("state ahead of bad", none.hours(9, 0, 0), WindTaken.STATE);
        WindTaken x = Texts.ridgeOf(RIDGE);
        Texts.rowOf(x, 100, 101, 1000, -1000, 4000, -1, 3101, 3100, -100);
        Check.due("row 8", x.hours(8, 0, 1), WindTaken.BAD);
        Check.due("row -1", x.hours(-1, 0, 1), WindTaken.BAD);
        Check.due("none", x.hours(0, 0, 0), WindTaken.BAD);
        Check.due("bad ahead of null", x.hours(1, 0, 25), WindTaken.BAD);
        Check.due("null", x.hours(1, 0, 1), -1000011);
        Check.due("null ahead of place", x.hours(1, -1, 1), -1000011);
        Check.due("place -1", x.hours(0, -1, 1), -1000012);
        Check.due("place 9", x.hours(0, 9, 1), -1000012);
        Check.due("beyond", x.hours(0, 8, 2), -1000012);
        Check.due("place, most", x.hours(0, Integer.MAX_VALUE, 24), -1000012);
        Check.due("place ahead of no wind", x.hours(0, 1, 9), -1000012);
        int[] noWinds = {1, 3, 4, 5, 6, 8};
        for (int i = 0; i < noWinds.length; i++) {
            Check.due("no wind at " + noWinds[i], x.hours(0, noWinds[i], 1), WindTaken.BAD);
        }
        Check.due("the second is none", x.hours(0, 0, 2), WindTaken.BAD);
        Check.due("no hour went", x.count(2), 0);
        dueOf(x, 0, 100, 0, 0);
    }

    private static void mill() {
        WindTaken x = Texts.ridgeOf(RIDGE);
        x.furl(2, 1);
        x.face(2, 3);
        int[] wanted = {1, 9, 5, 50, 0, 0, 3, 1, 6, 9};
        for (int what = 0; what < wanted.length; what++) {
            Check.due("mill(2, " + what + ")", x.mill(2, what), wanted[what]);
        }
        Check.due("what 10", x.mill(2, 10), WindTaken.BAD);
        Check.due("what -1", x.mill(2, -1), WindTaken.BAD);
        Check.due("mill 5", x.mill(5, 0), WindTaken.BAD);
        Check.due("mill -1", x.mill(-1, 0), WindTaken.BAD);
    }

    private static void left() {
        WindTaken x = Texts.ridgeOf(RIDGE);
        Check.due("at the first", x.left(0, 0, 77, 0), 77);
        Check.due("at the second", x.left(1, 0, 77, 0), 39);
        Check.due("at the third", x.left(2, 0, 77, 0), 20);
        Check.due("bits of the third", x.left(2, 0, 0, 1), 3);
        Check.due("bits of the second: a ruin, too", x.left(1, 0, 0, 1), 1 | 16);
        x.furl(0, 1);
        Check.due("behind a furled one", x.left(1, 0, 77, 0), 77);
        Check.due("bits all the same", x.left(1, 0, 0, 1), 1 | 16);
        x.furl(0, 0);
        x.furl(1, 1);
        Check.due("at a furled one", x.left(1, 0, 77, 0), 39);
        Check.due("mill 5", x.left(5, 0, 0, 0), WindTaken.BAD);
        Check.due("mill -1", x.left(-1, 0, 0, 0), WindTaken.BAD);
        Check.due("quarter 4", x.left(0, 4, 0, 0), WindTaken.BAD);
        Check.due("quarter -1", x.left(0, -1, 0, 1), WindTaken.BAD);
        Check.due("strength 101", x.left(0, 0, 101, 1), WindTaken.BAD);
        Check.due("strength -1", x.left(0, 0, -1, 1), WindTaken.BAD);
        Check.due("what 2", x.left(0, 0, 0, 2), WindTaken.BAD);
        Check.due("what -1", x.left(0, 0, 0, -1), WindTaken.BAD);
    }

    /** One in the middle, and others 1, 6, 7 off, 1 and 2 aside, lower and as high. */
    private static void behind() {
        String middle = "law 50 0 0; mill hooded 10 10 3 1 0 0;";
        WindTaken x = Texts.ridgeOf(middle
            + "mill hooded 10 9 3 1 0 0; mill hooded 9 4 3 1 0 0; mill hooded 10 3 9 1 0 0;"
            + "mill hooded 12 9 9 1 0 0; mill hooded 11 5 2 1 0 0; mill water 11 4 9 1 0 0;");
        Check.due("north", x.left(0, 0, 100, 1), 2 | 4 | 64);
        Check.due("a water one takes none", x.left(0, 0, 100, 0), 25);
        Check.due("east", x.left(0, 1, 100, 1), 16);
        Check.due("south", x.left(0, 2, 100, 1), 0);
        Check.due("west", x.left(0, 3, 100, 1), 0);
        x = Texts.ridgeOf(middle
            + "mill hooded 11 10 3 1 0 0; mill hooded 16 9 3 1 0 0; mill hooded 17 10 9 1 0 0;"
            + "mill hooded 14 12 9 1 0 0; mill hooded 13 11 2 1 0 0; mill ruin 12 11 9 1 0 0;");
        Check.due("east", x.left(0, 1, 100, 1), 2 | 4 | 64);
        Check.due("a ruin takes none", x.left(0, 1, 100, 0), 25);
        x = Texts.ridgeOf(middle
            + "mill half 10 11 3 1 0 0; mill half 11 16 3 1 0 0; mill half 10 17 9 1 0 0;"
            + "mill half 8 12 9 1 0 0; mill half 9 13 2 1 0 0;");
        Check.due("south", x.left(0, 2, 100, 1), 2 | 4);
        Check.due("west, aside", x.left(0, 3, 100, 1), 0);
        x = Texts.ridgeOf(middle
            + "mill half 9 10 3 1 0 0; mill half 4 11 3 1 0 0; mill half 3 10 9 1 0 0;"
            + "mill half 8 8 9 1 0 0; mill half 7 9 2 1 0 0;");
        Check.due("west", x.left(0, 3, 100, 1), 2 | 4);
        x.build(5);
        Check.due("a floor higher", x.left(0, 3, 100, 1), 2 | 4 | 32);
        x.build(0);
        Check.due("higher than they", x.left(0, 3, 100, 1), 0);
    }

    private static void dueOf(WindTaken x, int mill, int corn, int flour, int wear) {
        Check.due("corn of " + mill, x.mill(mill, 3), corn);
        Check.due("flour of " + mill, x.mill(mill, 4), flour);
        Check.due("wear of " + mill, x.mill(mill, 5), wear);
    }
}
