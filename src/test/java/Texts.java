/** Feeds texts to a WindTaken, and makes one with a ridge. */
final class Texts {
    private Texts() {
    }

    /** Feeds a text, eight bytes a call; the last answer. */
    static int feed(WindTaken x, String text) {
        int answer = x.count(5);
        for (int from = 0; from < text.length(); from += 8) {
            int to = Math.min(from + 8, text.length());
            answer = x.feed(word(text, from, to), to - from);
        }
        return answer;
    }

    static long word(String text, int from, int to) {
        long w = 0;
        for (int i = from; i < to; i++) {
            w = w << 8 | text.charAt(i) & 255;
        }
        return w;
    }

    static int read(WindTaken x, String text) {
        feed(x, text);
        return x.ridge();
    }

    static WindTaken ridgeOf(String text) {
        WindTaken x = new WindTaken();
        Check.holds("a ridge: " + text, read(x, text) > 0);
        return x;
    }

    /** A row 0 of ints with these items. */
    static void rowOf(WindTaken x, int... items) {
        x.row(0, 2, items.length);
        for (int i = 0; i < items.length; i++) {
            x.set(0, i, items[i]);
        }
    }
}
