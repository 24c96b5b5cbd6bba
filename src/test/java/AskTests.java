/** Promises 27 to 31: kinds, asks, the trace, counts. */
final class AskTests {
    /** By an hour (0, 50) they grind 5, 10, 5, 5, 0. */
    private static final String RIDGE = "law 0 0 0; mill fixed 3 0 2 1 9 9; mill water 0 0 1 2 5 50;"
        + "mill hooded 6 0 3 1 7 9; mill half 9 0 4 2 50 9; mill ruin 12 0 5 1 99 9;";

    private AskTests() {
    }

    static void run() {
        kind();
        as();
        ask();
        askRefused();
        trace();
        count();
    }

    private static void kind() {
        WindTaken x = Texts.ridgeOf(RIDGE);
        int[] wanted = {1, 4, 2, 3, 5};
        for (int mill = 0; mill < 5; mill++) {
            Check.due("kind of " + mill, x.kind(mill), wanted[mill]);
        }
        Check.due("mill 5", x.kind(5), WindTaken.BAD);
        Check.due("mill -1", x.kind(-1), WindTaken.BAD);
    }

    private static void as() {
        WindTaken x = Texts.ridgeOf(RIDGE);
        int[] kindsOf = {1 | 2, 1 | 16, 1 | 2 | 4, 1 | 2 | 4 | 8, 1 | 2 | 32};
        for (int mill = 0; mill < 5; mill++) {
            for (int kind = 0; kind <= 5; kind++) {
                boolean is = (kindsOf[mill] >> kind & 1) != 0;
                Check.due(mill + " as " + kind, x.as(mill, kind), is ? mill : -1000013);
                Check.due("status", x.status(), is ? 0 : 3);
            }
        }
        Check.due("kind 6", x.as(0, 6), WindTaken.BAD);
        Check.due("kind -1", x.as(0, -1), WindTaken.BAD);
        Check.due("mill 5", x.as(5, 0), WindTaken.BAD);
        Check.due("mill -1", x.as(-1, 0), WindTaken.BAD);
        x.as(3, 1);
        Check.due("its kind stays", x.kind(3), 3);
        Check.due("it is asked as what it is", x.ask(3, 1), 2 * (3 + 40 - 50));
    }

    private static void ask() {
        WindTaken x = Texts.ridgeOf(RIDGE);
        x.hour(0, 50);
        dueAsk(x, 0, 0, 5 + 20, 11, 10, 21, 20);
        dueAsk(x, 0, 1, 20, 21, 20);
        dueAsk(x, 1, 0, 10 - 100, 13, 10);
        dueAsk(x, 1, 1, 1 + 10 - 100, 23, 20, 13, 10);
        dueAsk(x, 2, 0, 5 + 2 + 30 - 7, 11, 10, 22, 21, 20);
        dueAsk(x, 2, 1, 2 + 30 - 7, 22, 21, 20);
        dueAsk(x, 3, 0, -(5 + 2 * (3 + 40 - 50)), 12, 11, 10, 24, 22, 21, 20);
        dueAsk(x, 3, 1, 2 * (3 + 40 - 50), 24, 22, 21, 20);
        dueAsk(x, 4, 0, 2 * (0 + 4 + 50), 14, 11, 10, 21, 20);
        dueAsk(x, 4, 1, 4 + 50, 21, 20);
        x.build(3);
        dueAsk(x, 3, 1, 2 * (3 + 50 - 50), 24, 22, 21, 20);
    }

    private static void dueAsk(WindTaken x, int mill, int what, int answer, int... bodies) {
        Check.due("ask(" + mill + ", " + what + ")", x.ask(mill, what), answer);
        for (int i = 0; i < 18; i++) {
            int wanted = i < bodies.length ? bodies[i] : WindTaken.NONE;
            Check.due("trace " + i + " of ask(" + mill + ", " + what + ")", x.trace(i), wanted);
        }
    }

    private static void askRefused() {
        WindTaken x = Texts.ridgeOf(RIDGE);
        x.ask(0, 1);
        Check.due("what 2", x.ask(0, 2), WindTaken.BAD);
        Check.due("what -1", x.ask(0, -1), WindTaken.BAD);
        Check.due("mill 5", x.ask(5, 0), WindTaken.BAD);
        Check.due("mill -1", x.ask(-1, 0), WindTaken.BAD);
        Check.due("the trace stays", x.trace(0), 21);
        Check.due("the trace stays, too", x.trace(1), 20);
    }

    private static void trace() {
        WindTaken x = Texts.ridgeOf(RIDGE);
        Check.due("none yet", x.trace(0), WindTaken.NONE);
        x.ask(3, 0);
        Check.due("-1", x.trace(-1), WindTaken.NONE);
        Check.due("least", x.trace(Integer.MIN_VALUE), WindTaken.NONE);
        Check.due("6", x.trace(6), 20);
        Check.due("7", x.trace(7), WindTaken.NONE);
        Check.due("15", x.trace(15), WindTaken.NONE);
        Check.due("16", x.trace(16), WindTaken.NONE);
        Check.due("most", x.trace(Integer.MAX_VALUE), WindTaken.NONE);
        x.ask(1, 0);
        Check.due("empty ahead of an ask", x.trace(2), WindTaken.NONE);
    }

    private static void count() {
        WindTaken x = Texts.ridgeOf(RIDGE);
        x.row(0, 0, 0);
        x.row(5, 1, 3);
        x.row(5, 2, 3);
        x.hour(0, 50);
        x.hour(0, 0);
        x.furl(4, 1);
        x.furl(0, 1);
        x.furl(0, 1);
        x.feed(7, 7);
        int[] wanted = {2, 5, 2, 35, 2, 7};
        for (int what = 0; what < 6; what++) {
            Check.due("count(" + what + ")", x.count(what), wanted[what]);
        }
        Check.due("count(6)", x.count(6), WindTaken.BAD);
        Check.due("count(-1)", x.count(-1), WindTaken.BAD);
        x.drop(0);
        x.furl(4, 0);
        Check.due("a row less", x.count(0), 1);
        Check.due("a furled one less", x.count(4), 1);
    }
}
