/** Feeds texts to a WindTaken, and makes one with a ridge. */
final class Texts {
    private Texts() {
    }

    /** Feeds a text, eight bytes a call; the last answer. */
    static int feed(WindTaken x, String text) {
        int answer = x.count(5);
        for (int from = 0; from < text.length(); from += 8) {
            int to = Math.min(from + 8, text.length());
            answer = x.feed(word(text, from, to), to - from);
        }
        return answer;
    }

    static long word(String text, int from, int to) {
        long w = 0;
        for (int i = from; i < to; i++) {
            w = w << 8 | text.charAt(i) & 255;
        }
        return w;
    }

    static int read(WindTaken x, String text) {
        feed(x, text);
        return x.ridge();
    }

    static WindTaken ridgeOf(String text) {
        WindTaken x = new WindTaken();
        Check.holds("a ridge: " + text, read(x, text) > 0);
        return x;
    }

    /** A row 0 of ints with these items. */
    static void rowOf(WindTaken x, int... items) {
        x.row(0, 2, items.length);
        for (int i = 0; i < items.length; i++) {
            x.set(0, i, items[i]);
        }
    }

    /**
     * Whether a row begins with these items, 0 to 999 each, 8 at most: by night just so much corn
     * is ground. For this a ridge is read.
     */
    static boolean begins(WindTaken x, int row, int... items) {
        StringBuilder text = new StringBuilder("law 0 0 0;");
        for (int i = 0; i < items.length; i++) {
            text.append("mill water ").append(i).append(" 0 1 9 0 ").append(items[i]).append(';');
        }
        return read(x, text.toString()) == items.length && x.night(0, 0, 24, row, -1) > 0;
    }

    /** All that the calls tell of the ridge, the tape, the latest fault and the trace; not status(). */
    static int[] seen(WindTaken x) {
        int mills = x.count(1);
        int[] seen = new int[11 * mills + 14];
        for (int mill = 0; mill < mills; mill++) {
            for (int what = 0; what < 10; what++) {
                seen[11 * mill + what] = x.mill(mill, what);
            }
            seen[11 * mill + 10] = x.kind(mill);
        }
        for (int what = 0; what < 6; what++) {
            seen[11 * mills + what] = x.count(what);
        }
        for (int i = 0; i < 7; i++) {
            seen[11 * mills + 6 + i] = x.trace(i);
        }
        seen[11 * mills + 13] = x.fault();
        return seen;
    }
}
