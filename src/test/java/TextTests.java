/** Promises 6 to 8: the tape, and what is read from it. */
final class TextTests {
    private static final String LAW = "law 30 20 5;";
    private static final String ONE = "mill fixed 1 2 3 4 5 6;";

    private TextTests() {
    }

    static void run() {
        feed();
        oneMill();
        sorts();
        blanks();
        leastAndMost();
        cannotStand();
        noToken();
        notAsTold();
        onePlace();
        noRoom();
        firstToken();
        whatStays();
        nothingOfTheTapeBefore();
        nothingOfTheRidgeBefore();
    }

    private static void feed() {
        WindTaken x = new WindTaken();
        Check.due("feed 0", x.feed(0L, 0), WindTaken.BAD);
        Check.due("feed -1", x.feed(0L, -1), WindTaken.BAD);
        Check.due("feed 9", x.feed(0L, 9), WindTaken.BAD);
        Check.due("feed 1", x.feed(0x6c6c6c206cL, 1), 1);
        Check.due("feed 3", x.feed(0x77ff617720L, 3), 4);
        Check.due("that is 'law '", Texts.read(x, "0 0 0"), -1000109);
        for (int i = 1; i <= 50; i++) {
            Check.due("feed 8, number " + i, x.feed(-1L, 8), 8 * i);
        }
        Check.due("full", x.feed(0L, 1), WindTaken.FULL);
        Check.due("bad ahead of full", x.feed(0L, 9), WindTaken.BAD);
        Check.due("400 bytes", x.count(5), 400);
        Check.due("no token", x.ridge(), -1000100);
        Check.due("empty then", x.count(5), 0);
        for (int i = 1; i < 50; i++) {
            x.feed(0x2020202020202020L, 8);
        }
        Check.due("395", x.feed(0x2020L, 3), 395);
        Check.due("six are too many", x.feed(0L, 6), WindTaken.FULL);
        Check.due("none came", x.count(5), 395);
        Check.due("five are not", x.feed(0x2020202020L, 5), 400);
        Check.due("a byte 0 is no blank", x.ridge(), -1000492);
    }

    private static void oneMill() {
        WindTaken x = new WindTaken();
        Check.due("one", Texts.read(x, LAW + ONE), 1);
        int[] wanted = {3, 4, 5, 6, 0, 0, 0, 0, 1, 2};
        for (int what = 0; what < wanted.length; what++) {
            Check.due("mill(0, " + what + ")", x.mill(0, what), wanted[what]);
        }
        Check.due("tape", x.count(5), 0);
        Check.due("mills", x.count(1), 1);
        Check.due("none tells", x.fault(), 0);
    }

    private static void sorts() {
        WindTaken x = new WindTaken();
        String[] sorts = {"fixed", "hooded", "half", "water", "ruin"};
        for (int k = 0; k < sorts.length; k++) {
            Check.due(sorts[k], Texts.read(x, LAW + "mill " + sorts[k] + " 0 0 1 1 0 0;"), 1);
            Check.due("kind of " + sorts[k], x.kind(0), k + 1);
        }
        Check.due("mill is no sort", Texts.read(x, LAW + "mill mill 0 0 1 1 0 0;"), -1000117);
        Check.due("fixe", Texts.read(x, LAW + "mill fixe 0 0 1 1 0 0;"), -1000117);
        Check.due("fixedd", Texts.read(x, LAW + "mill fixedd 0 0 1 1 0 0;"), -1000117);
    }

    private static void blanks() {
        WindTaken x = new WindTaken();
        Check.due("none where one ends without", Texts.read(x, "law30 20 5;mill fixed1 2 3 4 5 6;"), 1);
        Check.due("lines", Texts.read(x, "\n \nlaw\n30 20\n\n5 ; mill\nfixed 1 2 3 4 5 6\n;\n \n"), 1);
        Check.due("a tab", Texts.read(x, "law\t30"), -1000103);
        Check.due("a return", Texts.read(x, "law 30 20 5\r\n;"), -1000111);
        Check.due("names run on", Texts.read(x, "lawmill"), -1000100);
        Check.due("millfixed", Texts.read(x, LAW + "millfixed 1 2 3 4 5 6;"), -1000112);
    }

    private static void leastAndMost() {
        WindTaken x = new WindTaken();
        Check.due("least", Texts.read(x, "law 0 0 0;mill ruin 0 0 1 1 0 0;"), 1);
        Check.due("most", Texts.read(x, "law 90 50 99;mill ruin 20 20 9 9 99 999;"), 1);
        Check.due("figures", Texts.read(x, "law 090 05 000;mill ruin 020 020 009 009 099 999;"), 1);
        Check.due("x", x.mill(0, 8), 20);
        Check.due("sails", x.mill(0, 1), 9);
    }

    private static void cannotStand() {
        WindTaken x = new WindTaken();
        fault(x, "", 0, 1);
        fault(x, "  \n", 3, 1);
        fault(x, "mill", 0, 1);
        fault(x, "30", 0, 1);
        fault(x, "law;", 3, 1);
        fault(x, "law 30 20 ;", 10, 1);
        fault(x, "law 30 20 5 5;", 12, 1);
        fault(x, "law 30 20 5 ", 12, 1);
        fault(x, LAW, 12, 1);
        fault(x, LAW + " ", 13, 1);
        fault(x, LAW + ";", 12, 1);
        fault(x, LAW + LAW, 12, 1);
        fault(x, LAW + "mill 1 2 3 4 5 6;", 17, 1);
        fault(x, LAW + "mill fixed 1 2 3 4 5;", 32, 1);
        fault(x, LAW + "mill fixed 1 2 3 4 5 6", 34, 1);
        fault(x, LAW + ONE + "law", 35, 1);
        fault(x, LAW + ONE + "5", 35, 1);
        fault(x, LAW + ONE + "mill", 39, 1);
    }

    private static void noToken() {
        WindTaken x = new WindTaken();
        fault(x, "Law 30", 0, 1);
        fault(x, "lawz 30", 0, 1);
        fault(x, "lawa 30", 0, 1);
        fault(x, "law{ 30", 3, 1);
        fault(x, "law` 30", 3, 1);
        fault(x, "law 3/ 30", 5, 1);
        fault(x, "law 3: 30", 5, 1);
        fault(x, "law 1000", 4, 1);
        fault(x, "law 0030", 4, 1);
        fault(x, "law 00000000000000000030", 4, 1);
        fault(x, "law 30 -1", 7, 1);
        fault(x, "law 30 2.0 5", 8, 1);
        fault(x, LAW + "mill \u00e9fixed", 17, 1);
        fault(x, LAW + "mill fixed 1 2 3 4 5 1000;", 33, 1);
        fault(x, LAW + ONE + "\u0000", 35, 1);
        fault(x, LAW + ONE + " 1234", 36, 1);
    }

    private static void notAsTold() {
        WindTaken x = new WindTaken();
        fault(x, "law 91 20 5;", 4, 2);
        fault(x, "law 30 51 5;", 7, 2);
        fault(x, "law 30 20 100;", 10, 2);
        fault(x, LAW + "mill fixed 21 2 3 4 5 6;", 23, 2);
        fault(x, LAW + "mill fixed 1 21 3 4 5 6;", 25, 2);
        fault(x, LAW + "mill fixed 1 2 0 4 5 6;", 27, 2);
        fault(x, LAW + "mill fixed 1 2 10 4 5 6;", 27, 2);
        fault(x, LAW + "mill fixed 1 2 3 0 5 6;", 29, 2);
        fault(x, LAW + "mill fixed 1 2 3 10 5 6;", 29, 2);
        fault(x, LAW + "mill fixed 1 2 3 4 100 6;", 31, 2);
    }

    private static void onePlace() {
        WindTaken x = new WindTaken();
        fault(x, LAW + ONE + "mill half 1 2 3 4 5 6;", 47, 2);
        fault(x, LAW + ONE + "mill half 2 2 3 4 5 6; mill ruin 2 2 1 1 1 1;", 70, 2);
        fault(x, LAW + ONE + "mill half 1 2 0 4 5 6;", 47, 2);
        Check.due("one X", Texts.read(x, LAW + ONE + "mill half 1 3 3 4 5 6;"), 2);
        Check.due("one Y", Texts.read(x, LAW + ONE + "mill half 2 2 3 4 5 6;"), 2);
        Check.due("changed", Texts.read(x, LAW + ONE + "mill half 2 1 3 4 5 6;"), 2);
    }

    private static void noRoom() {
        WindTaken x = new WindTaken();
        String eight = LAW + mills(8);
        Check.due("eight", Texts.read(x, eight), 8);
        fault(x, eight + " mill fixed", eight.length() + 1, 3);
        fault(x, eight + "mill", eight.length(), 3);
        fault(x, eight + "milk", eight.length(), 1);
        fault(x, eight + ";", eight.length(), 1);
        Check.due("eight and blanks", Texts.read(x, eight + " \n "), 8);
    }

    private static void firstToken() {
        WindTaken x = new WindTaken();
        fault(x, "law 91 51 1000 ?", 4, 2);
        fault(x, "law 30 ? 100", 7, 1);
        fault(x, LAW + "mill fixed 99 99 99", 23, 2);
    }

    private static void whatStays() {
        WindTaken x = Texts.ridgeOf(LAW + ONE);
        x.row(2, 0, 4);
        x.furl(0, 1);
        x.face(0, 3);
        x.hour(2, 50);
        x.ask(0, 1);
        x.image(1);
        Check.due("a fault", Texts.read(x, LAW + "mill half 9 9 9 9 99 x"), -1000133);
        Check.due("mills stay", x.count(1), 1);
        Check.due("hour stays", x.count(2), 1);
        Check.due("furled stays", x.count(4), 1);
        Check.due("face stays", x.mill(0, 6), 3);
        Check.due("x stays", x.mill(0, 8), 1);
        Check.due("sails stay", x.mill(0, 1), 4);
        Check.due("kind stays", x.kind(0), 1);
        Check.due("a ridge", Texts.read(x, LAW + ONE), 1);
        Check.due("the fault is told on", x.fault(), 1);
        Check.due("hour 0", x.count(2), 0);
        Check.due("none furls", x.count(4), 0);
        Check.due("faces 0", x.mill(0, 6), 0);
        Check.due("rows stay", x.count(0), 1);
        Check.due("trace stays", x.trace(0), 21);
        Check.due("images stay", x.restore(1), 1);
        Check.due("as it was kept", x.count(2), 1);
        fault(x, "law 99", 4, 2);
        Check.due("the latest one", x.fault(), 2);
    }

    /** The bytes of a longer text that was read are no part of the next one. */
    private static void nothingOfTheTapeBefore() {
        WindTaken x = new WindTaken();
        fault(x, "law 30 20 555", 10, 2);
        fault(x, "law 30 20 5", 11, 1);
        fault(x, "law 30 20 5     ", 16, 1);
        fault(x, "law 30 20 5", 11, 1);
        fault(x, "lawlawlaw", 0, 1);
        fault(x, "law", 3, 1);
        fault(x, LAW + ";;;;", 12, 1);
        fault(x, LAW, 12, 1);
    }

    /** The mills of a greater ridge that was read neither take wind nor grind in the next one. */
    private static void nothingOfTheRidgeBefore() {
        String one = "law 50 50 0; mill hooded 5 9 1 5 0 900;";
        WindTaken x = Texts.ridgeOf(one + "mill hooded 5 8 2 1 9 900; mill hooded 5 7 2 2 9 900;");
        x.image(0);
        x.hour(2, 100);
        x.furl(1, 1);
        Check.due("one in place of three", Texts.read(x, one), 1);
        dueAlone(x);
        Texts.rowOf(x, 50);
        Check.due("one set by night", x.night(0, 100, 1, 0, -1), 1);
        Check.due("hour", x.hour(0, 100), 50);
        Check.due("flour", x.count(3), 50);
        Check.due("restore", x.restore(0), 1);
        Check.due("three again", x.made(0, 100, 0), 12 + 5 + 20);
        Texts.read(x, one);
        Check.due("furled", x.furl(0, 1), 0);
        Check.due("it alone", x.count(4), 1);
        x.furl(0, 0);
        dueAlone(x);
    }

    private static void dueAlone(WindTaken x) {
        Check.due("alone: wind", x.left(0, 0, 100, 0), 100);
        Check.due("alone: behind none", x.left(0, 0, 100, 1), 0);
        Check.due("alone: made", x.made(0, 100, 0), 50);
        Check.due("alone: best", x.best(0, 100, 0), 50);
        Check.due("alone: set", x.best(0, 100, 1), 0);
        Check.due("alone: part", x.part(0, 100, 0), 0);
        Check.due("alone: others lose none", x.higher(0, 100, 0, 1), 0);
        Check.due("alone: years", x.years(1, 1, -1), 32);
        Check.due("alone: furled ones", x.count(4), 0);
        Check.due("alone: flour", x.count(3), 0);
        Check.due("alone: no second", x.kind(1), WindTaken.BAD);
    }

    private static String mills(int n) {
        StringBuilder text = new StringBuilder();
        for (int i = 0; i < n; i++) {
            text.append("mill half ").append(i).append(" 0 1 1 1 1;");
        }
        return text.toString();
    }

    private static void fault(WindTaken x, String text, int place, int number) {
        Check.due("ridge: " + text, Texts.read(x, text), -1000100 - place);
        Check.due("fault: " + text, x.fault(), number);
        Check.due("tape: " + text, x.count(5), 0);
    }
}
