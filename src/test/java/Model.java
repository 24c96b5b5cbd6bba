import java.util.ArrayList;
import java.util.List;
import java.util.regex.Matcher;
import java.util.regex.Pattern;

/**
 * A second WindTaken, written as slowly and as near to the document's words as can be, to compare
 * with: kinds are classes, what is foretold is done to a copy of the ridge.
 */
final class Model {
    static final int NONE = -1000000, BAD = -1000001, STATE = -1000002, FULL = -1000003;

    /** A ridge that can be copied, changed, and thrown away. */
    static final class Land {
        final List<AnyMill> mills = new ArrayList<>();
        int take, due, price, hours;

        Land copied() {
            Land land = new Land();
            for (AnyMill mill : mills) {
                land.mills.add(mill.copied());
            }
            land.take = take;
            land.due = due;
            land.price = price;
            land.hours = hours;
            return land;
        }

        Land furled(int set) {
            Land land = copied();
            for (AnyMill mill : land.mills) {
                mill.furled |= (set >> mill.number & 1) == 1;
            }
            return land;
        }

        int left(AnyMill mill, int q, int w) {
            int left = w;
            for (AnyMill other : mills) {
                if (mill.behind(other, q) && other.takes(q)) {
                    left -= take * left / 100;
                }
            }
            return left;
        }

        /** An hour on this land itself: what each grinds. */
        int[] hour(int q, int w) {
            int[] ground = new int[mills.size()];
            for (AnyMill mill : mills) {
                ground[mill.number] = mill.turns(q) ? Math.min(mill.corn, mill.strength(left(mill, q, w))) : 0;
                mill.wear += mill.takes(q) ? left(mill, q, w) / 10 : 0;
            }
            for (AnyMill mill : mills) {
                mill.corn -= ground[mill.number];
                mill.flour += ground[mill.number];
            }
            hours++;
            return ground;
        }
    }

    abstract static class AnyMill {
        int number, x, y, floors, sails, age, corn, flour, wear, facing;
        boolean furled;

        abstract int kind();

        AnyMill copied() {
            AnyMill mill = of(kind());
            mill.number = number;
            mill.x = x;
            mill.y = y;
            mill.floors = floors;
            mill.sails = sails;
            mill.age = age;
            mill.corn = corn;
            mill.flour = flour;
            mill.wear = wear;
            mill.facing = facing;
            mill.furled = furled;
            return mill;
        }

        static AnyMill of(int kind) {
            return kind == 1 ? new FixedMill() : kind == 2 ? new HoodedMill() : kind == 3 ? new HalfMill()
                : kind == 4 ? new WaterMill() : new RuinMill();
        }

        boolean behind(AnyMill other, int q) {
            int[] towardsX = {0, 1, 0, -1};
            int[] towardsY = {-1, 0, 1, 0};
            int ahead = (other.x - x) * towardsX[q] + (other.y - y) * towardsY[q];
            int aside = Math.abs((other.x - x) * towardsY[q] + (other.y - y) * towardsX[q]);
            return ahead >= 1 && ahead <= 6 && aside <= 1 && floors <= other.floors;
        }

        boolean turns(int q) {
            return !furled;
        }

        boolean takes(int q) {
            return turns(q);
        }

        int strength(int left) {
            return left * sails / 10;
        }

        int size(List<Integer> trace) {
            trace.add(10);
            return flour;
        }

        int mark(List<Integer> trace) {
            trace.add(20);
            return number;
        }
    }

    static class FixedMill extends AnyMill {
        int kind() {
            return 1;
        }

        boolean turns(int q) {
            return !furled && (kind() != 1 || facing == q);
        }

        int size(List<Integer> trace) {
            trace.add(11);
            int less = super.size(trace);
            return less + mark(trace);
        }

        int mark(List<Integer> trace) {
            trace.add(21);
            return super.mark(trace) + 10 * floors;
        }
    }

    static class HoodedMill extends FixedMill {
        int kind() {
            return 2;
        }

        int mark(List<Integer> trace) {
            trace.add(22);
            return super.mark(trace) - age;
        }
    }

    static final class HalfMill extends HoodedMill {
        int kind() {
            return 3;
        }

        int strength(int left) {
            return left * sails / 20;
        }

        int size(List<Integer> trace) {
            trace.add(12);
            return -super.size(trace);
        }

        int mark(List<Integer> trace) {
            trace.add(24);
            return 2 * super.mark(trace);
        }
    }

    static final class WaterMill extends AnyMill {
        int kind() {
            return 4;
        }

        boolean takes(int q) {
            return false;
        }

        int strength(int left) {
            return 5 * sails;
        }

        int size(List<Integer> trace) {
            trace.add(13);
            return super.size(trace) - 100;
        }

        int mark(List<Integer> trace) {
            trace.add(23);
            int own = super.mark(trace);
            return own + size(trace);
        }
    }

    static final class RuinMill extends FixedMill {
        int kind() {
            return 5;
        }

        boolean turns(int q) {
            return false;
        }

        int size(List<Integer> trace) {
            trace.add(14);
            return 2 * super.size(trace);
        }
    }

    private final long[][] rows = new long[8][];
    private final int[] lanes = new int[8];
    private String tape = "";
    private Land land = new Land();
    private final Land[] images = new Land[2];
    private List<Integer> trace = new ArrayList<>();
    private int fault, status;

    private int found(int number) {
        status = number;
        return -1000010 - number;
    }

    private int fine(int answer) {
        status = 0;
        return answer;
    }

    private boolean none() {
        return land.mills.isEmpty();
    }

    private boolean no(int mill) {
        return mill < 0 || mill >= land.mills.size();
    }

    private static boolean no(int v, int least, int most) {
        return v < least || v > most;
    }

    private static boolean noWind(int q, int w) {
        return no(q, 0, 3) || no(w, 0, 100);
    }

    private static int sum(int[] ground) {
        int sum = 0;
        for (int one : ground) {
            sum += one;
        }
        return sum;
    }

    int row(int row, int lane, int n) {
        if (no(row, 0, 7) || no(lane, 0, 2) || n > 40) {
            return BAD;
        }
        if (n < 0) {
            return found(4);
        }
        rows[row] = new long[n];
        lanes[row] = lane;
        return fine(n);
    }

    int set(int row, int i, int v) {
        if (no(row, 0, 7)) {
            return BAD;
        }
        if (rows[row] == null) {
            return found(1);
        }
        if (i < 0 || i >= rows[row].length) {
            return found(2);
        }
        rows[row][i] = lanes[row] == 0 ? (byte) v : lanes[row] == 1 ? (short) v : v;
        return fine((int) rows[row][i]);
    }

    int copy(int a, int i, int b, int j, int n) {
        if (no(a, 0, 7) || no(b, 0, 7)) {
            return BAD;
        }
        if (rows[a] == null || rows[b] == null) {
            return found(1);
        }
        if (lanes[a] != lanes[b]) {
            return found(5);
        }
        boolean beyond = (long) i + n > rows[a].length || (long) j + n > rows[b].length;
        if (i < 0 || j < 0 || n < 0 || beyond) {
            return found(2);
        }
        long[] ahead = rows[a].clone();
        for (int k = 0; k < n; k++) {
            rows[b][j + k] = ahead[i + k];
        }
        return fine(n);
    }

    int drop(int row) {
        if (no(row, 0, 7)) {
            return BAD;
        }
        if (rows[row] == null) {
            return found(1);
        }
        int n = rows[row].length;
        rows[row] = null;
        return fine(n);
    }

    int feed(long w, int n) {
        if (no(n, 1, 8)) {
            return BAD;
        }
        if (tape.length() + n > 400) {
            return FULL;
        }
        for (int i = n - 1; i >= 0; i--) {
            tape += (char) (w >> 8 * i & 255);
        }
        return tape.length();
    }

    /** A fault, thrown up to ridge(). */
    static final class Fault extends Exception {
        private static final long serialVersionUID = 1L;
        final int number, place;

        Fault(int number, int place) {
            this.number = number;
            this.place = place;
        }
    }

    private static final Pattern TOKEN = Pattern.compile("[ \n]*(?:([a-z]+)|([0-9]+)|(;)|([^ \n])|$)", Pattern.DOTALL);
    private static final List<String> SORTS = List.of("", "fixed", "hooded", "half", "water", "ruin");
    private Matcher at;

    private int place() {
        for (int group = 1; group <= 4; group++) {
            if (at.group(group) != null) {
                return at.start(group);
            }
        }
        return tape.length();
    }

    private String word(List<String> words) throws Fault {
        String word = at.group(1);
        if (word == null || !words.contains(word)) {
            throw new Fault(1, place());
        }
        at.find();
        return word;
    }

    private int number(int least, int most) throws Fault {
        String figures = at.group(2);
        if (figures == null || figures.length() > 3) {
            throw new Fault(1, place());
        }
        int number = Integer.parseInt(figures);
        if (no(number, least, most)) {
            throw new Fault(2, place());
        }
        at.find();
        return number;
    }

    private void sign() throws Fault {
        if (at.group(3) == null) {
            throw new Fault(1, place());
        }
        at.find();
    }

    private Land parsed() throws Fault {
        Land read = new Land();
        at = TOKEN.matcher(tape);
        at.find();
        word(List.of("law"));
        read.take = number(0, 90);
        read.due = number(0, 50);
        read.price = number(0, 99);
        sign();
        do {
            int wordPlace = place();
            word(List.of("mill"));
            if (read.mills.size() == 8) {
                throw new Fault(3, wordPlace);
            }
            AnyMill mill = AnyMill.of(SORTS.indexOf(word(SORTS)));
            mill.number = read.mills.size();
            mill.x = number(0, 20);
            int yPlace = place();
            mill.y = number(0, 20);
            for (AnyMill other : read.mills) {
                if (other.x == mill.x && other.y == mill.y) {
                    throw new Fault(2, yPlace);
                }
            }
            mill.floors = number(1, 9);
            mill.sails = number(1, 9);
            mill.age = number(0, 99);
            mill.corn = number(0, 999);
            sign();
            read.mills.add(mill);
        } while (place() < tape.length());
        return read;
    }

    int ridge() {
        try {
            land = parsed();
            return land.mills.size();
        } catch (Fault thrown) {
            fault = thrown.number;
            return -1000100 - thrown.place;
        } finally {
            tape = "";
        }
    }

    int fault() {
        return fault;
    }

    int furl(int mill, int is) {
        if (no(mill) || no(is, 0, 1)) {
            return BAD;
        }
        int was = land.mills.get(mill).furled ? 1 : 0;
        land.mills.get(mill).furled = is == 1;
        return was;
    }

    int face(int mill, int q) {
        if (no(mill) || no(q, 0, 3)) {
            return BAD;
        }
        if (land.mills.get(mill).kind() == 5) {
            return STATE;
        }
        int was = land.mills.get(mill).facing;
        land.mills.get(mill).facing = q;
        return was;
    }

    int build(int mill) {
        if (no(mill)) {
            return BAD;
        }
        return land.mills.get(mill).floors == 9 ? FULL : ++land.mills.get(mill).floors;
    }

    int bring(int mill, int n) {
        if (no(mill) || no(n, 0, 999)) {
            return BAD;
        }
        land.mills.get(mill).corn = Math.min(99999, land.mills.get(mill).corn + n);
        return land.mills.get(mill).corn;
    }

    int hour(int q, int w) {
        return none() ? STATE : noWind(q, w) ? BAD : sum(land.hour(q, w));
    }

    int hours(int row, int i, int n) {
        if (none()) {
            return STATE;
        }
        if (no(row, 0, 7) || no(n, 1, 24)) {
            return BAD;
        }
        if (rows[row] == null) {
            return found(1);
        }
        if (i < 0 || (long) i + n > rows[row].length) {
            return found(2);
        }
        Land then = land.copied();
        int ground = 0;
        for (int k = i; k < i + n; k++) {
            long v = rows[row][k];
            if (v < 0 || v > 3100 || v % 1000 > 100) {
                return BAD;
            }
            ground += sum(then.hour((int) v / 1000, (int) v % 1000));
        }
        land = then;
        return fine(ground);
    }

    int mill(int mill, int what) {
        if (no(mill) || no(what, 0, 9)) {
            return BAD;
        }
        AnyMill one = land.mills.get(mill);
        return new int[] {one.floors, one.sails, one.age, one.corn, one.flour, one.wear, one.facing,
            one.furled ? 1 : 0, one.x, one.y}[what];
    }

    int left(int mill, int q, int w, int what) {
        if (no(mill) || noWind(q, w) || no(what, 0, 1)) {
            return BAD;
        }
        int bits = 0;
        for (AnyMill other : land.mills) {
            bits += land.mills.get(mill).behind(other, q) ? 1 << other.number : 0;
        }
        return what == 0 ? land.left(land.mills.get(mill), q, w) : bits;
    }

    private int[] ground(int q, int w, int set) {
        return land.furled(set).hour(q, w);
    }

    int made(int q, int w, int set) {
        return none() ? STATE : noWind(q, w) || no(set, 0, 255) ? BAD : sum(ground(q, w, set));
    }

    private int bestSet(int q, int w) {
        int most = -1;
        int best = 0;
        for (int many = 0; many <= land.mills.size(); many++) {
            for (int set = 0; set < 1 << land.mills.size(); set++) {
                if (Integer.bitCount(set) == many && sum(ground(q, w, set)) > most) {
                    most = sum(ground(q, w, set));
                    best = set;
                }
            }
        }
        return best;
    }

    int best(int q, int w, int what) {
        if (none()) {
            return STATE;
        }
        if (noWind(q, w) || no(what, 0, 1)) {
            return BAD;
        }
        int best = bestSet(q, w);
        return what == 0 ? sum(ground(q, w, best)) : best;
    }

    int part(int q, int w, int mill) {
        if (noWind(q, w) || no(mill)) {
            return BAD;
        }
        int[] with = ground(q, w, bestSet(q, w));
        int[] without = ground(q, w, 0);
        int[] parts = new int[with.length];
        for (int i = 0; i < parts.length; i++) {
            parts[i] = Math.max(0, without[i] - with[i]);
        }
        int rest = sum(with) - sum(without) - sum(parts);
        parts[0] += rest;
        return rest < 0 ? NONE : parts[mill];
    }

    int still(int q, int w, int a, int b, int what) {
        if (noWind(q, w) || no(a) || no(b) || a == b || no(what, 0, 2)) {
            return BAD;
        }
        int gain = ground(q, w, 1 << a)[b] - ground(q, w, 0)[b];
        int loss = ground(q, w, 0)[a] - ground(q, w, 1 << a)[a];
        return what == 0 ? gain : what == 1 ? loss : gain >= loss + land.price ? 1 : 0;
    }

    int higher(int q, int w, int mill, int what) {
        if (noWind(q, w) || no(mill) || no(what, 0, 2)) {
            return BAD;
        }
        int[] now = ground(q, w, 0);
        Land raised = land.copied();
        raised.mills.get(mill).floors = Math.min(9, raised.mills.get(mill).floors + 1);
        int[] then = what == 2 ? ground(q, w, 1 << mill) : raised.hour(q, w);
        int others = 0;
        for (int i = 0; i < now.length; i++) {
            others += i == mill ? 0 : then[i] - now[i];
        }
        return what == 0 ? then[mill] - now[mill] : what == 1 ? -others : others;
    }

    int owes(int q, int w, int a, int b) {
        if (noWind(q, w) || no(a) || no(b) || a == b) {
            return BAD;
        }
        AnyMill one = land.mills.get(a);
        AnyMill other = land.mills.get(b);
        if (!one.takes(q) || other.age <= one.age || !other.behind(one, q)) {
            return 0;
        }
        return land.due * (ground(q, w, 1 << a)[b] - ground(q, w, 0)[b]) / 100;
    }

    int[] groundByNight(int q, int w, int n, int set) {
        Land then = land.furled(set);
        for (int k = 0; k < n; k++) {
            then.hour(q, w);
        }
        int[] ground = new int[land.mills.size()];
        for (AnyMill mill : land.mills) {
            ground[mill.number] = then.mills.get(mill.number).flour - mill.flour;
        }
        return ground;
    }

    int night(int q, int w, int n, int row, int i) {
        if (none()) {
            return STATE;
        }
        if (noWind(q, w) || no(n, 1, 24) || no(row, 0, 7) || i < -1) {
            return BAD;
        }
        if (rows[row] == null) {
            return found(1);
        }
        if (rows[row].length < land.mills.size()) {
            return found(2);
        }
        List<Integer> sets = new ArrayList<>();
        for (int set = 0; set < 1 << land.mills.size(); set++) {
            int[] ground = groundByNight(q, w, n, set);
            boolean fits = true;
            for (AnyMill mill : land.mills) {
                fits &= !mill.furled || (set >> mill.number & 1) == 0;
                fits &= ground[mill.number] == rows[row][mill.number];
            }
            if (fits) {
                sets.add(set);
            }
        }
        return fine(i == -1 ? sets.size() : i < sets.size() ? sets.get(i) : NONE);
    }

    int years(int n, int seed, int mill) {
        if (none()) {
            return STATE;
        }
        if (no(n, 1, 1000) || no(seed, 1, 999999) || mill != -1 && no(mill)) {
            return BAD;
        }
        Land then = land.copied();
        java.math.BigInteger x = java.math.BigInteger.valueOf(seed);
        java.math.BigInteger by = java.math.BigInteger.valueOf(2147483647);
        int ground = 0;
        for (int k = 0; k < n; k++) {
            for (AnyMill one : then.mills) {
                one.corn = 1000000;
            }
            x = x.multiply(java.math.BigInteger.valueOf(16807)).mod(by);
            int q = x.intValue() % 4;
            x = x.multiply(java.math.BigInteger.valueOf(16807)).mod(by);
            int[] each = then.hour(q, x.intValue() % 101);
            ground += mill == -1 ? sum(each) : each[mill];
        }
        return ground;
    }

    int image(int k) {
        if (no(k, 0, 1)) {
            return BAD;
        }
        if (none()) {
            return STATE;
        }
        images[k] = land.copied();
        return 1;
    }

    int restore(int k) {
        if (no(k, 0, 1)) {
            return BAD;
        }
        if (images[k] == null) {
            return STATE;
        }
        land = images[k].copied();
        return 1;
    }

    int kind(int mill) {
        return no(mill) ? BAD : land.mills.get(mill).kind();
    }

    int as(int mill, int kind) {
        if (no(mill) || no(kind, 0, 5)) {
            return BAD;
        }
        Class<?>[] kinds = {AnyMill.class, FixedMill.class, HoodedMill.class, HalfMill.class,
            WaterMill.class, RuinMill.class};
        return kinds[kind].isInstance(land.mills.get(mill)) ? fine(mill) : found(3);
    }

    int ask(int mill, int what) {
        if (no(mill) || no(what, 0, 1)) {
            return BAD;
        }
        trace = new ArrayList<>();
        return what == 0 ? land.mills.get(mill).size(trace) : land.mills.get(mill).mark(trace);
    }

    int trace(int i) {
        return i >= 0 && i < Math.min(16, trace.size()) ? trace.get(i) : NONE;
    }

    int count(int what) {
        int there = 0;
        for (long[] row : rows) {
            there += row == null ? 0 : 1;
        }
        int flour = 0;
        int furled = 0;
        for (AnyMill mill : land.mills) {
            flour += mill.flour;
            furled += mill.furled ? 1 : 0;
        }
        return no(what, 0, 5) ? BAD
            : new int[] {there, land.mills.size(), land.hours, flour, furled, tape.length()}[what];
    }

    int status() {
        return status;
    }
}
