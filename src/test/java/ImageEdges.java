/** The sentences on images that name a boundary case: promises 25 and 26. */
final class ImageEdges {
    private static final int[] NO_IMAGES = {-1, 2, Integer.MIN_VALUE, Integer.MAX_VALUE};
    private static final String TWO = "law 50 20 0; mill fixed 5 5 3 4 10 900; mill hooded 5 7 3 5 40 900;";
    private static final String ONE = "law 10 50 0; mill water 1 2 1 3 99 9;";

    private ImageEdges() {
    }

    static void run() {
        promise25Kept();
        promise25InPlaceOfTheOneBefore();
        promise25Bad();
        promise25State();
        promise26AsItWasKept();
        promise26AgainAndAgain();
        promise26Bad();
        promise26State();
    }

    private static void promise25Kept() {
        Edge e = Edge.of(25, "An IMAGE (0, 1) is kept of the RIDGE: 1.");
        WindTaken x = Texts.ridgeOf(TWO);
        e.due("image(0)", x.image(0), 1);
        Texts.read(x, ONE);
        e.due("image(1)", x.image(1), 1);
        x.hour(0, 0);
        e.due("restore(0)", x.restore(0), 1);
        e.due("count(1)", x.count(1), 2);
        e.due("count(2)", x.count(2), 0);
        e.due("restore(1)", x.restore(1), 1);
        e.due("count(1)", x.count(1), 1);
        e.due("mill(0, 4), ahead of its hour", x.mill(0, 4), 0);
    }

    private static void promise25InPlaceOfTheOneBefore() {
        Edge e = Edge.of(25, "An IMAGE (0, 1) is kept of the RIDGE");
        WindTaken x = Texts.ridgeOf(ONE);
        x.image(0);
        x.hour(0, 0);
        e.due("image(0), again", x.image(0), 1);
        x.hour(0, 0);
        x.restore(0);
        e.due("count(2), of the later one", x.count(2), 1);
        e.due("mill(0, 3)", x.mill(0, 3), 0);
        e.state("restore(1), the other is none", x.restore(1));
    }

    private static void promise25Bad() {
        Edge e = Edge.of(25, "BAD; STATE");
        WindTaken x = new WindTaken();
        e.badFor("image(#), ahead of STATE", NO_IMAGES, k -> x.image(k));
        Texts.read(x, ONE);
        e.badFor("image(#)", NO_IMAGES, k -> x.image(k));
    }

    private static void promise25State() {
        Edge e = Edge.of(25, "STATE: no RIDGE.");
        WindTaken x = new WindTaken();
        e.state("image(0)", x.image(0));
        e.state("image(1)", x.image(1));
        e.state("restore(0), so none was kept", x.restore(0));
        Texts.read(x, "law 0 0 0;");
        e.state("image(0), behind a FAULT", x.image(0));
    }

    private static void promise26AsItWasKept() {
        Edge e = Edge.of(26, "The RIDGE is as an IMAGE kept it: 1.");
        WindTaken x = Texts.ridgeOf(TWO);
        x.build(0);
        x.face(0, 2);
        x.furl(1, 1);
        x.bring(1, 9);
        x.hour(2, 100);
        x.image(1);
        int[] kept = Texts.seen(x);
        int owed = x.owes(2, 100, 1, 0);
        int left = x.left(0, 0, 100, 0);
        Texts.read(x, ONE);
        x.furl(0, 1);
        e.due("restore(1)", x.restore(1), 1);
        e.dueAll("all of it", Texts.seen(x), kept);
        e.due("TAKE", x.left(0, 0, 100, 0), left);
        e.due("DUE", x.owes(2, 100, 1, 0), owed);
        e.due("PRICE 0", x.still(2, 0, 0, 1, 2), 1);
        x.furl(1, 0);
        x.hour(2, 100);
        x.build(1);
        x.restore(1);
        e.dueAll("all of it, though it went on", Texts.seen(x), kept);
    }

    private static void promise26AgainAndAgain() {
        Edge e = Edge.of(26, "The RIDGE is as an IMAGE kept it");
        WindTaken x = Texts.ridgeOf(ONE);
        x.row(0, 0, 2);
        x.image(0);
        for (int k = 0; k < 20; k++) {
            x.hour(0, 0);
            x.hour(0, 0);
            e.due("mill(0, 3), ahead of restore(0)", x.mill(0, 3), 0);
            x.restore(0);
            e.due("mill(0, 3), behind restore(0)", x.mill(0, 3), 9);
        }
        x.feed(0L, 3);
        x.ask(0, 0);
        x.restore(0);
        e.due("count(0), ROWS are none of it", x.count(0), 1);
        e.due("count(5), nor is the tape", x.count(5), 3);
        e.due("trace(0), nor is THE TRACE", x.trace(0), 13);
    }

    private static void promise26Bad() {
        Edge e = Edge.of(26, "BAD; STATE");
        WindTaken x = new WindTaken();
        e.badFor("restore(#), ahead of STATE", NO_IMAGES, k -> x.restore(k));
        Texts.read(x, ONE);
        x.image(0);
        x.image(1);
        e.badFor("restore(#)", NO_IMAGES, k -> x.restore(k));
    }

    private static void promise26State() {
        Edge e = Edge.of(26, "STATE: none was kept.");
        WindTaken x = new WindTaken();
        e.state("restore(0), no RIDGE", x.restore(0));
        Texts.read(x, ONE);
        e.state("restore(0)", x.restore(0));
        x.image(1);
        x.hour(0, 0);
        e.state("restore(0), but the other was", x.restore(0));
        e.due("count(2): the RIDGE stays", x.count(2), 1);
        e.due("restore(1)", x.restore(1), 1);
    }
}
