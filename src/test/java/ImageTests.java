/** Promises 25 and 26: images of the ridge. */
final class ImageTests {
    private static final String FIRST = "law 50 20 5; mill fixed 5 5 3 4 10 900; mill hooded 5 7 3 5 40 900;";
    private static final String SECOND = "law 10 50 0; mill water 1 2 1 3 99 9;";

    private ImageTests() {
    }

    static void run() {
        refused();
        keptWhole();
        two();
    }

    private static void refused() {
        WindTaken x = new WindTaken();
        Check.due("image -1", x.image(-1), WindTaken.BAD);
        Check.due("image 2, bad ahead of state", x.image(2), WindTaken.BAD);
        Check.due("no ridge", x.image(1), WindTaken.STATE);
        Check.due("restore -1", x.restore(-1), WindTaken.BAD);
        Check.due("restore 2, bad ahead of state", x.restore(2), WindTaken.BAD);
        Check.due("none kept", x.restore(1), WindTaken.STATE);
        Texts.read(x, FIRST);
        Check.due("none kept of it", x.restore(0), WindTaken.STATE);
        Check.due("image 2", x.image(2), WindTaken.BAD);
        Check.due("image", x.image(0), 1);
        Check.due("the other is none", x.restore(1), WindTaken.STATE);
    }

    private static void keptWhole() {
        WindTaken x = Texts.ridgeOf(FIRST);
        x.furl(1, 1);
        x.face(0, 2);
        x.build(0);
        x.hour(2, 100);
        Check.due("image", x.image(1), 1);
        int[] before = all(x, 2);
        int best = x.made(0, 100, 2);
        int owed = x.owes(2, 100, 1, 0);
        x.furl(1, 0);
        x.furl(0, 1);
        x.face(0, 3);
        x.build(0);
        x.bring(0, 9);
        x.hour(0, 100);
        x.ask(0, 1);
        x.row(3, 0, 1);
        Texts.read(x, SECOND);
        Texts.feed(x, "law");
        Check.due("restore", x.restore(1), 1);
        Check.dueAll("as it was kept", all(x, 2), before);
        Check.due("made", x.made(0, 100, 2), best);
        Check.due("owed", x.owes(2, 100, 1, 0), owed);
        Check.due("price", x.still(0, 0, 0, 1, 2), 0);
        Check.due("rows are none of it", x.count(0), 1);
        Check.due("nor the tape", x.count(5), 3);
        Check.due("nor the trace", x.trace(0), 21);
        x.hour(2, 100);
        Check.due("restore again", x.restore(1), 1);
        Check.dueAll("the image stays", all(x, 2), before);
    }

    private static void two() {
        WindTaken x = Texts.ridgeOf(FIRST);
        x.image(0);
        Texts.read(x, SECOND);
        x.image(1);
        Check.due("restore the first", x.restore(0), 1);
        Check.due("two mills", x.count(1), 2);
        Check.due("kind", x.kind(0), 1);
        Check.due("restore the second", x.restore(1), 1);
        Check.due("one mill", x.count(1), 1);
        Check.due("kind", x.kind(0), 4);
        Check.due("no second mill", x.mill(1, 0), WindTaken.BAD);
        x.hour(0, 0);
        x.image(0);
        x.restore(1);
        Check.due("before the hour", x.count(2), 0);
        x.restore(0);
        Check.due("in place of the first", x.count(2), 1);
        Check.due("its corn ended", x.mill(0, 3), 0);
    }

    private static int[] all(WindTaken x, int mills) {
        int[] all = new int[11 * mills + 5];
        for (int mill = 0; mill < mills; mill++) {
            for (int what = 0; what < 10; what++) {
                all[11 * mill + what] = x.mill(mill, what);
            }
            all[11 * mill + 10] = x.kind(mill);
        }
        for (int what = 1; what <= 4; what++) {
            all[11 * mills + what] = x.count(what);
        }
        return all;
    }
}
