/** Promises 1 to 5, and 32 of calls with a row. */
final class RowTests {
    private RowTests() {
    }

    static void run() {
        newObject();
        row();
        set();
        copy();
        drop();
        status();
    }

    private static void newObject() {
        WindTaken x = new WindTaken();
        for (int what = 0; what <= 5; what++) {
            Check.due("new: count(" + what + ")", x.count(what), 0);
        }
        Check.due("new: fault", x.fault(), 0);
        Check.due("new: status", x.status(), 0);
        Check.due("new: trace(0)", x.trace(0), WindTaken.NONE);
        Check.due("new: hour", x.hour(0, 50), WindTaken.STATE);
        Check.due("new: image", x.image(0), WindTaken.STATE);
        Check.due("new: restore", x.restore(1), WindTaken.STATE);
        for (int row = 0; row < 8; row++) {
            Check.due("new: drop " + row, x.drop(row), -1000011);
        }
    }

    private static void row() {
        WindTaken x = new WindTaken();
        Check.due("row", x.row(0, 0, 40), 40);
        Check.due("row of none", x.row(7, 2, 0), 0);
        Check.due("two rows", x.count(0), 2);
        Check.due("row -1", x.row(-1, 0, 1), WindTaken.BAD);
        Check.due("row 8", x.row(8, 0, 1), WindTaken.BAD);
        Check.due("lane -1", x.row(0, -1, 1), WindTaken.BAD);
        Check.due("lane 3", x.row(0, 3, 1), WindTaken.BAD);
        Check.due("41 items", x.row(0, 0, 41), WindTaken.BAD);
        Check.due("lane ahead of size", x.row(0, 3, -1), WindTaken.BAD);
        Check.due("row ahead of size", x.row(8, 0, -1), WindTaken.BAD);
        Check.due("size", x.row(1, 0, -1), -1000014);
        Check.due("size, the least", x.row(1, 0, Integer.MIN_VALUE), -1000014);
        Check.due("no row came", x.count(0), 2);
        x.set(0, 39, 5);
        Check.due("size leaves the row", x.row(0, 1, -3), -1000014);
        Check.due("it is there", x.copy(0, 39, 0, 0, 1), 1);
        Check.due("in place of it", x.row(0, 0, 1), 1);
        Check.due("it is shorter", x.set(0, 1, 0), -1000012);
        Check.due("still two", x.count(0), 2);
        itemsAreNoughtAgain();
    }

    /** A row's items are seen through hours: wind 0 of strength 0 is one, 101 is none. */
    private static void itemsAreNoughtAgain() {
        WindTaken x = Texts.ridgeOf("law 0 0 0; mill hooded 0 0 1 1 0 9;");
        x.row(0, 2, 2);
        x.set(0, 0, 101);
        x.set(0, 1, 101);
        Check.due("no winds", x.hours(0, 0, 2), WindTaken.BAD);
        x.row(0, 2, 2);
        Check.due("0 again", x.hours(0, 0, 2), 0);
        x.set(0, 0, 101);
        x.drop(0);
        x.row(0, 2, 2);
        Check.due("0 after a drop", x.hours(0, 0, 1), 0);
    }

    private static void set() {
        WindTaken x = new WindTaken();
        x.row(0, 0, 3);
        x.row(1, 1, 3);
        x.row(2, 2, 3);
        Check.due("byte", x.set(0, 0, 127), 127);
        Check.due("byte 128", x.set(0, 1, 128), -128);
        Check.due("byte 256", x.set(0, 2, 256), 0);
        Check.due("byte -129", x.set(0, 2, -129), 127);
        Check.due("short", x.set(1, 0, 32767), 32767);
        Check.due("short 32768", x.set(1, 1, 32768), -32768);
        Check.due("short 65541", x.set(1, 2, 65541), 5);
        Check.due("int", x.set(2, 0, Integer.MIN_VALUE), Integer.MIN_VALUE);
        Check.due("int, most", x.set(2, 2, Integer.MAX_VALUE), Integer.MAX_VALUE);
        Check.due("row -1", x.set(-1, 0, 0), WindTaken.BAD);
        Check.due("row 8", x.set(8, 0, 0), WindTaken.BAD);
        Check.due("missing", x.set(3, 0, 0), -1000011);
        Check.due("missing ahead of place", x.set(3, -1, 0), -1000011);
        Check.due("place 3", x.set(0, 3, 0), -1000012);
        Check.due("place -1", x.set(0, -1, 0), -1000012);
        Check.due("place, most", x.set(0, Integer.MAX_VALUE, 0), -1000012);
    }

    private static void copy() {
        WindTaken x = new WindTaken();
        x.row(0, 2, 4);
        x.row(1, 2, 3);
        x.row(2, 1, 4);
        Check.due("copy", x.copy(0, 0, 1, 0, 3), 3);
        Check.due("none", x.copy(0, 4, 1, 3, 0), 0);
        Check.due("row a", x.copy(8, 0, 1, 0, 1), WindTaken.BAD);
        Check.due("row b", x.copy(0, 0, -1, 0, 1), WindTaken.BAD);
        Check.due("bad ahead of null", x.copy(3, 0, 8, 0, 1), WindTaken.BAD);
        Check.due("null a", x.copy(3, 0, 1, 0, 1), -1000011);
        Check.due("null b", x.copy(0, 0, 3, 0, 1), -1000011);
        Check.due("null ahead of store and place", x.copy(3, -1, 2, 0, 1), -1000011);
        Check.due("store", x.copy(0, 0, 2, 0, 1), -1000015);
        Check.due("store of none", x.copy(0, 0, 2, 0, 0), -1000015);
        Check.due("store ahead of place", x.copy(0, -1, 2, 0, 1), -1000015);
        Check.due("place i", x.copy(0, -1, 1, 0, 1), -1000012);
        Check.due("place j", x.copy(0, 0, 1, -1, 1), -1000012);
        Check.due("place n", x.copy(0, 0, 1, 0, -1), -1000012);
        Check.due("beyond a", x.copy(0, 3, 1, 0, 2), -1000012);
        Check.due("beyond b", x.copy(0, 0, 1, 0, 4), -1000012);
        Check.due("beyond a, none", x.copy(0, 5, 1, 0, 0), -1000012);
        Check.due("beyond, wrapped", x.copy(0, 1, 1, 1, Integer.MAX_VALUE), -1000012);
        Check.due("beyond, far", x.copy(0, Integer.MAX_VALUE, 1, 0, 1), -1000012);
        itemsThatCame();
    }

    /** What came is seen by what a mill without end would have ground by night: just that. */
    private static void itemsThatCame() {
        WindTaken x = Texts.ridgeOf("law 0 0 0; mill hooded 0 0 1 5 0 90; mill hooded 20 20 1 3 0 90;");
        Texts.rowOf(x, 9, 50, 30, 7);
        Check.due("not yet", x.night(0, 100, 1, 0, -1), 0);
        Check.due("within a row, downwards", x.copy(0, 1, 0, 0, 3), 3);
        Check.due("50 30", x.night(0, 100, 1, 0, -1), 1);
        Texts.rowOf(x, 50, 30, 8, 7);
        Check.due("within a row, upwards", x.copy(0, 0, 0, 1, 2), 2);
        Check.due("50 50", x.night(0, 100, 1, 0, -1), 0);
        Check.due("back", x.copy(0, 1, 0, 0, 2), 2);
        Check.due("50 30 as they were ahead", x.night(0, 100, 1, 0, -1), 1);
        x.row(1, 2, 3);
        Check.due("to another", x.copy(0, 0, 1, 1, 2), 2);
        Check.due("0 50", x.night(0, 100, 1, 1, -1), 0);
        Check.due("within that", x.copy(1, 1, 1, 0, 2), 2);
        Check.due("50 30 in another", x.night(0, 100, 1, 1, -1), 1);
        Check.due("they stay in the first", x.night(0, 100, 1, 0, -1), 1);
    }

    private static void drop() {
        WindTaken x = new WindTaken();
        x.row(4, 1, 17);
        Check.due("row -1", x.drop(-1), WindTaken.BAD);
        Check.due("row 8", x.drop(8), WindTaken.BAD);
        Check.due("drop", x.drop(4), 17);
        Check.due("none is left", x.count(0), 0);
        Check.due("missing", x.drop(4), -1000011);
        Check.due("missing for set", x.set(4, 0, 1), -1000011);
        Check.due("it comes again", x.row(4, 0, 0), 0);
        Check.due("empty", x.drop(4), 0);
    }

    private static void status() {
        WindTaken x = new WindTaken();
        x.drop(0);
        Check.due("null", x.status(), 1);
        x.row(0, 0, 41);
        Check.due("bad leaves it", x.status(), 1);
        x.fault();
        x.feed(0, 9);
        x.count(9);
        Check.due("others leave it", x.status(), 1);
        x.row(0, 0, 2);
        Check.due("none", x.status(), 0);
        x.set(0, 2, 0);
        Check.due("place", x.status(), 2);
        x.set(0, 1, 0);
        Check.due("none after set", x.status(), 0);
        x.row(0, 0, -1);
        Check.due("size", x.status(), 4);
        x.copy(0, 0, 0, 1, 1);
        Check.due("none after copy", x.status(), 0);
        x.row(1, 1, 2);
        x.copy(0, 0, 1, 0, 1);
        Check.due("store", x.status(), 5);
        x.drop(1);
        Check.due("none after drop", x.status(), 0);
        statusOfOthers();
    }

    private static void statusOfOthers() {
        WindTaken x = new WindTaken();
        x.drop(0);
        x.hours(0, 0, 1);
        x.night(0, 0, 1, 0, -1);
        x.as(0, 0);
        Check.due("state and bad leave it", x.status(), 1);
        Texts.read(x, "law 0 0 0; mill hooded 0 0 1 1 0 9;");
        Check.due("a ridge leaves it", x.status(), 1);
        x.as(0, 2);
        Check.due("as", x.status(), 0);
        x.as(0, 3);
        Check.due("kind", x.status(), 3);
        x.hours(1, 0, 1);
        Check.due("hours, null", x.status(), 1);
        x.row(0, 2, 1);
        x.hours(0, 0, 2);
        Check.due("hours, place", x.status(), 2);
        x.set(0, 0, 4000);
        x.drop(5);
        Check.due("hours, no wind", x.hours(0, 0, 1), WindTaken.BAD);
        Check.due("that leaves it", x.status(), 1);
        x.set(0, 0, 3000);
        x.drop(5);
        x.hours(0, 0, 1);
        Check.due("hours", x.status(), 0);
        x.night(0, 0, 1, 5, -1);
        Check.due("night, null", x.status(), 1);
        Check.due("night, none", x.night(0, 0, 1, 0, 5), WindTaken.NONE);
        Check.due("that is no finding", x.status(), 0);
        x.row(0, 2, 0);
        x.night(0, 0, 1, 0, -1);
        Check.due("night, place", x.status(), 2);
    }
}
