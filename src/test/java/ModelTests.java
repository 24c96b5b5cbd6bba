/** The same calls to a WindTaken and to the model, by draws that are the same every time. */
final class ModelTests {
    private static final int RUNS = 600;
    private static final int CALLS = 512;
    private static final String[] SORTS = {"fixed", "hooded", "hooded", "hooded", "half", "half", "water", "ruin"};

    private final WindTaken x = new WindTaken();
    private final Model model = new Model();
    private final int run;
    private long draw;
    private int call;

    private ModelTests(int run) {
        this.run = run;
        draw = 7919L * run + 17;
    }

    static void run() {
        for (int run = 0; run < RUNS; run++) {
            new ModelTests(run).compare();
        }
    }

    private int draw(int least, int most) {
        draw = draw * 6364136223846793005L + 1442695040888963407L;
        return least + (int) Math.floorMod(draw >> 33, (long) most - least + 1);
    }

    /** Mostly from least to most; at times just beyond, at times far. */
    private int near(int least, int most) {
        int sort = draw(0, 59);
        if (sort == 0) {
            return draw(least - 2, least - 1);
        }
        if (sort == 1) {
            return most + draw(1, 2);
        }
        if (sort == 2) {
            return draw(0, 1) == 0 ? Integer.MIN_VALUE : Integer.MAX_VALUE;
        }
        return draw(0, 9) == 0 ? draw(0, 1) == 0 ? least : most : draw(least, most);
    }

    private void compare() {
        for (int i = 0; i < 5 && run % 10 != 0 && x.count(1) == 0; i++) {
            feedRidge();
        }
        while (call < CALLS) {
            int sort = draw(0, 99);
            if (sort < 16) {
                rows();
            } else if (sort < 20) {
                text();
            } else if (sort < 50) {
                deeds();
            } else if (sort < 85) {
                foretold();
            } else {
                asked();
            }
        }
    }

    private void due(String what, long got, long want) {
        call++;
        Check.due("model, run " + run + ", call " + call + ": " + what, got, want);
    }

    private int mill() {
        return near(0, Math.max(0, x.count(1) - 1));
    }

    private void rows() {
        int row = near(0, 3);
        int n = near(0, 12);
        switch (draw(0, 9)) {
            case 0:
            case 1:
                int lane = near(0, 2);
                int size = draw(0, 5) == 0 ? near(0, 40) : draw(6, 30);
                due("row", x.row(row, lane, size), model.row(row, lane, size));
                break;
            case 2:
            case 3:
            case 4:
            case 5:
                int v = draw(0, 3) == 0 ? near(-200, 200) : 1000 * near(0, 3) + near(0, 100);
                due("set", x.set(row, n, v), model.set(row, n, v));
                break;
            case 6:
            case 7:
            case 8:
                int b = near(0, 3);
                int i = near(0, 5);
                int j = near(0, 5);
                due("copy", x.copy(row, i, b, j, n), model.copy(row, i, b, j, n));
                break;
            default:
                due("drop", x.drop(row), model.drop(row));
        }
        due("status", x.status(), model.status());
    }

    private void text() {
        if (draw(0, 3) == 0) {
            long w = (long) draw(0, 1 << 30) << 32 ^ draw(0, 1 << 30);
            int n = near(1, 8);
            due("feed", x.feed(w, n), model.feed(w, n));
        } else {
            feedRidge();
        }
    }

    private void feedRidge() {
        String text = ridgeText();
        if (draw(0, 2) == 0) {
            text = spoilt(text);
        }
        for (int from = 0; from < text.length(); from += 8) {
            int to = Math.min(from + 8, text.length());
            long w = Texts.word(text, from, to);
            due("feed", x.feed(w, to - from), model.feed(w, to - from));
        }
        due("ridge: " + text, x.ridge(), model.ridge());
        due("fault", x.fault(), model.fault());
        due("tape", x.count(5), model.count(5));
    }

    /** A ridge with many behind one another, so that most of what is foretold is not nought. */
    private String ridgeText() {
        StringBuilder text = new StringBuilder("law ");
        text.append(draw(0, 90)).append(' ').append(draw(0, 50)).append(' ');
        text.append(draw(0, 1) * draw(0, 20)).append(';');
        int mills = draw(0, 9) == 0 ? 9 : draw(2, 8);
        int width = draw(0, 5) == 0 ? 9 : draw(1, 3);
        int depth = draw(0, 5) == 0 ? 20 : draw(4, 8);
        for (int i = 0; i < mills; i++) {
            text.append(draw(0, 3) == 0 ? "\n" : "").append("mill ");
            text.append(SORTS[draw(0, SORTS.length - 1)]).append(' ');
            text.append(draw(0, width)).append(' ').append(draw(0, depth)).append(' ');
            text.append(draw(0, 5) == 0 ? draw(3, 9) : draw(1, 2)).append(' ').append(draw(1, 9)).append(' ');
            text.append(draw(0, 99)).append(' ').append(draw(0, 3) == 0 ? draw(0, 60) : draw(60, 999)).append(';');
        }
        return text.toString();
    }

    /** The text with one byte changed, dropped or put in. */
    private String spoilt(String text) {
        int at = draw(0, text.length() - 1);
        String bytes = "lawmixedhof 0123456789;\n\u0000\u00ff-";
        String one = bytes.substring(draw(0, bytes.length() - 2)).substring(0, 1);
        int sort = draw(0, 3);
        if (sort == 0) {
            return text.substring(0, at);
        }
        return text.substring(0, at) + (sort == 1 ? "" : one) + text.substring(sort == 3 ? at : at + 1);
    }

    private void deeds() {
        int mill = mill();
        int q = near(0, 3);
        int w = near(0, 100);
        switch (draw(0, 9)) {
            case 0:
                int is = draw(0, 2) == 0 ? near(0, 1) : 0;
                due("furl", x.furl(mill, is), model.furl(mill, is));
                break;
            case 1:
            case 2:
                due("face", x.face(mill, q), model.face(mill, q));
                break;
            case 3:
                due("build", x.build(mill), model.build(mill));
                break;
            case 4:
            case 5:
                int n = near(0, 999);
                due("bring", x.bring(mill, n), model.bring(mill, n));
                break;
            case 6:
                int row = near(0, 3);
                int i = near(0, 12);
                int many = draw(0, 1) == 0 ? near(1, 24) : near(1, 3);
                due("hours", x.hours(row, i, many), model.hours(row, i, many));
                due("status", x.status(), model.status());
                break;
            case 7:
                due("hour", x.hour(q, w), model.hour(q, w));
                break;
            case 8:
                int k = near(0, 1);
                due("image", x.image(k), model.image(k));
                break;
            default:
                int kept = near(0, 1);
                due("restore", x.restore(kept), model.restore(kept));
        }
    }

    private void foretold() {
        int q = near(0, 3);
        int w = near(0, 100);
        int a = mill();
        int b = mill();
        int what = near(0, 2);
        switch (draw(0, 8)) {
            case 0:
                int set = near(0, 255);
                due("made", x.made(q, w, set), model.made(q, w, set));
                break;
            case 1:
                due("best", x.best(q, w, what), model.best(q, w, what));
                break;
            case 2:
                for (int mill = -1; mill <= x.count(1); mill++) {
                    due("part", x.part(q, w, mill), model.part(q, w, mill));
                }
                break;
            case 3:
                due("still", x.still(q, w, a, b, what), model.still(q, w, a, b, what));
                break;
            case 4:
                for (int sort = -1; sort <= 3; sort++) {
                    due("higher", x.higher(q, w, a, sort), model.higher(q, w, a, sort));
                }
                break;
            case 5:
                for (int mill = -1; mill <= x.count(1); mill++) {
                    due("owes", x.owes(q, w, a, mill), model.owes(q, w, a, mill));
                }
                break;
            case 6:
                night(q, w);
                break;
            case 7:
                int n = near(1, 1000);
                int seed = near(1, 999999);
                int one = near(-1, Math.max(0, x.count(1) - 1));
                due("years", x.years(n, seed, one), model.years(n, seed, one));
                break;
            default:
                due("left", x.left(a, q, w, what), model.left(a, q, w, what));
        }
    }

    private void night(int q, int w) {
        int n = draw(0, 2) == 0 ? near(1, 24) : 1;
        int row = near(0, 3);
        boolean can = q >= 0 && q <= 3 && w >= 0 && w <= 100 && n >= 1 && n <= 24;
        if (draw(0, 3) != 0 && x.count(1) > 0 && can) {
            layNight(row, q, w, n);
        }
        int i = draw(0, 1) == 0 ? -1 : near(-1, 4);
        due("night", x.night(q, w, n, row, i), model.night(q, w, n, row, i));
        due("status", x.status(), model.status());
    }

    /** A night that was by some set, or at times one that was so but for one mill. */
    private void layNight(int row, int q, int w, int n) {
        int[] ground = model.groundByNight(q, w, n, draw(0, (1 << x.count(1)) - 1));
        if (draw(0, 4) == 0) {
            ground[draw(0, ground.length - 1)] += draw(0, 1) == 0 ? -1 : 1;
        }
        due("row", x.row(row, 2, 8), model.row(row, 2, 8));
        for (int i = 0; i < ground.length; i++) {
            due("set", x.set(row, i, ground[i]), model.set(row, i, ground[i]));
        }
    }

    private void asked() {
        int mill = mill();
        int what = near(0, 9);
        switch (draw(0, 7)) {
            case 0:
                due("kind", x.kind(mill), model.kind(mill));
                break;
            case 1:
                int kind = near(0, 5);
                due("as", x.as(mill, kind), model.as(mill, kind));
                due("status", x.status(), model.status());
                break;
            case 2:
                int sort = near(0, 1);
                due("ask", x.ask(mill, sort), model.ask(mill, sort));
                for (int i = 0; i < 8; i++) {
                    due("trace", x.trace(i), model.trace(i));
                }
                break;
            case 3:
                int place = near(0, 16);
                due("trace", x.trace(place), model.trace(place));
                break;
            case 4:
                due("count", x.count(what), model.count(what));
                break;
            case 5:
                due("fault", x.fault(), model.fault());
                break;
            default:
                due("mill", x.mill(mill, what), model.mill(mill, what));
        }
    }
}
