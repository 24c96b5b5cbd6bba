/**
 * A ridge of windmills, each of which takes wind out of those behind it: read from a text,
 * driven by hours of wind, and asked what an hour would bring. ../shared/DOC.md tells the calls;
 * words in capitals there bear the same names here.
 */
public final class WindTaken {
    public static final int NONE = -1000000, BAD = -1000001, STATE = -1000002, FULL = -1000003;

    private static final int FINDINGS = -1000010;
    private static final int NULL = 1;
    private static final int PLACE = 2;
    private static final int KIND = 3;
    private static final int SIZE = 4;
    private static final int STORE = 5;

    private static final int FAULTS = -1000100;
    private static final int CANNOT_STAND = 1;
    private static final int NOT_AS_TOLD = 2;
    private static final int NO_ROOM = 3;

    private static final int MOST_ROWS = 8;
    private static final int MOST_ITEMS = 40;
    private static final int MOST_BYTES = 400;
    private static final int MOST_FIGURES = 3;
    private static final int MOST_MILLS = 8;
    private static final int MOST_FLOORS = 9;
    private static final int MOST_CORN = 99999;
    private static final int MOST_WIND = 100;
    private static final int MOST_TRACED = 16;
    private static final int MOST_SIDE = 20;
    private static final int QUARTERS = 4;
    private static final int IMAGES = 2;
    private static final int EVERY_SET = 255;
    private static final int NOBODY = -1;

    private static final int BYTES = 0;
    private static final int SHORTS = 1;
    private static final int INTS = 2;
    private static final int MISSING = -1;

    private static final int MILL = 0;
    private static final int FIXED = 1;
    private static final int HOODED = 2;
    private static final int HALF = 3;
    private static final int WATER = 4;
    private static final int RUIN = 5;

    /** The KIND that each KIND is, too; MILL is no other one. */
    private static final int[] NEXT_KIND = {-1, 0, 1, 2, 0, 1};
    /** The BODY that begins when SIZE is asked of each KIND. */
    private static final int[] SIZE_BODY = {10, 11, 11, 12, 13, 14};
    /** The BODY that begins when MARK is asked of each KIND. */
    private static final int[] MARK_BODY = {20, 21, 22, 24, 23, 21};
    /** Far above the deepest ask, of a HALF one: 12, 11, 24, 22, 21, 20. */
    private static final int DEEPEST_ASK = 16;

    private static final int END = 0;
    private static final int NAME = 1;
    private static final int NUMBER = 2;
    private static final int SIGN = 3;
    private static final int NO_TOKEN = 4;

    private static final long DRAW_FACTOR = 16807L;
    private static final long DRAW_MODULUS = 2147483647L;

    private final Row[] rows = new Row[MOST_ROWS];
    private final Reader reader = new Reader();
    private final Ridge ridge = new Ridge();
    private final Ridge draft = new Ridge();
    private final Ridge[] images = new Ridge[IMAGES];
    private final Quarter[] quarters = new Quarter[QUARTERS];
    private final Trace trace = new Trace();
    private int fault;
    private int status;

    public WindTaken() {
        for (int i = 0; i < MOST_ROWS; i++) {
            rows[i] = new Row();
        }
        for (int k = 0; k < IMAGES; k++) {
            images[k] = new Ridge();
        }
        for (int q = 0; q < QUARTERS; q++) {
            quarters[q] = new Quarter();
        }
    }

    // ---- rows.

    public int row(int row, int lane, int n) {
        if (!isRow(row) || !isWithin(lane, BYTES, INTS) || n > MOST_ITEMS) {
            return BAD;
        }
        if (n < 0) {
            return found(SIZE);
        }
        rows[row].lay(lane, n);
        return unfound(n);
    }

    public int set(int row, int i, int v) {
        if (!isRow(row)) {
            return BAD;
        }
        Row items = rows[row];
        if (items.isMissing()) {
            return found(NULL);
        }
        if (!items.covers(i, 1)) {
            return found(PLACE);
        }
        return unfound(items.put(i, v));
    }

    public int copy(int a, int i, int b, int j, int n) {
        if (!isRow(a) || !isRow(b)) {
            return BAD;
        }
        Row from = rows[a];
        Row to = rows[b];
        if (from.isMissing() || to.isMissing()) {
            return found(NULL);
        }
        if (from.lane != to.lane) {
            return found(STORE);
        }
        if (!from.covers(i, n) || !to.covers(j, n)) {
            return found(PLACE);
        }
        System.arraycopy(from.items, i, to.items, j, n);
        return unfound(n);
    }

    public int drop(int row) {
        if (!isRow(row)) {
            return BAD;
        }
        Row items = rows[row];
        if (items.isMissing()) {
            return found(NULL);
        }
        int size = items.size;
        items.size = MISSING;
        return unfound(size);
    }

    // ---- ridges, hours.

    public int feed(long w, int n) {
        if (!isWithin(n, 1, 8)) {
            return BAD;
        }
        if (reader.tape.length + n > MOST_BYTES) {
            return FULL;
        }
        reader.tape.append(w, n);
        return reader.tape.length;
    }

    public int ridge() {
        int latest = reader.read(draft);
        reader.tape.length = 0;
        if (latest != 0) {
            fault = latest;
            return FAULTS - reader.faultPlace;
        }
        ridge.become(draft);
        return ridge.count;
    }

    public int fault() {
        return fault;
    }

    public int furl(int mill, int is) {
        if (!ridge.has(mill) || !isWithin(is, 0, 1)) {
            return BAD;
        }
        int was = bit(ridge.mills[mill].furled);
        ridge.mills[mill].furled = is == 1;
        return was;
    }

    public int face(int mill, int q) {
        if (!ridge.has(mill) || !isQuarter(q)) {
            return BAD;
        }
        Mill one = ridge.mills[mill];
        if (one.kind == RUIN) {
            return STATE;
        }
        int was = one.facing;
        one.facing = q;
        return was;
    }

    public int build(int mill) {
        if (!ridge.has(mill)) {
            return BAD;
        }
        Mill one = ridge.mills[mill];
        if (one.floors >= MOST_FLOORS) {
            return FULL;
        }
        one.floors++;
        return one.floors;
    }

    public int bring(int mill, int n) {
        if (!ridge.has(mill) || !isWithin(n, 0, 999)) {
            return BAD;
        }
        Mill one = ridge.mills[mill];
        one.corn = Math.min(one.corn + n, MOST_CORN);
        return one.corn;
    }

    public int hour(int q, int w) {
        if (ridge.isNone()) {
            return STATE;
        }
        if (!isWind(q, w)) {
            return BAD;
        }
        return pass(q, w);
    }

    public int hours(int row, int i, int n) {
        if (ridge.isNone()) {
            return STATE;
        }
        if (!isRow(row) || !isWithin(n, 1, 24)) {
            return BAD;
        }
        Row winds = rows[row];
        if (winds.isMissing()) {
            return found(NULL);
        }
        if (!winds.covers(i, n)) {
            return found(PLACE);
        }
        // All winds are looked at ahead of the first hour: a refusal changes nothing.
        for (int k = i; k < i + n; k++) {
            if (!isWind(quarterOf(winds.items[k]), strengthOf(winds.items[k]))) {
                return BAD;
            }
        }
        int ground = 0;
        for (int k = i; k < i + n; k++) {
            ground += pass(quarterOf(winds.items[k]), strengthOf(winds.items[k]));
        }
        return unfound(ground);
    }

    public int mill(int mill, int what) {
        if (!ridge.has(mill)) {
            return BAD;
        }
        Mill one = ridge.mills[mill];
        switch (what) {
            case 0: return one.floors;
            case 1: return one.sails;
            case 2: return one.age;
            case 3: return one.corn;
            case 4: return one.flour;
            case 5: return one.wear;
            case 6: return one.facing;
            case 7: return bit(one.furled);
            case 8: return one.x;
            case 9: return one.y;
            default: return BAD;
        }
    }

    public int left(int mill, int q, int w, int what) {
        if (!ridge.has(mill) || !isWind(q, w) || !isWithin(what, 0, 1)) {
            return BAD;
        }
        Quarter wind = windOf(q, w);
        return what == 0 ? wind.windLeft(mill, 0) : wind.behind[mill];
    }

    // ---- foretold, of an HOUR (q, w).

    public int made(int q, int w, int set) {
        if (ridge.isNone()) {
            return STATE;
        }
        if (!isWind(q, w) || !isWithin(set, 0, EVERY_SET)) {
            return BAD;
        }
        return windOf(q, w).madeBy(set);
    }

    public int best(int q, int w, int what) {
        if (ridge.isNone()) {
            return STATE;
        }
        if (!isWind(q, w) || !isWithin(what, 0, 1)) {
            return BAD;
        }
        Quarter wind = windOf(q, w);
        int set = wind.bestSet();
        return what == 0 ? wind.madeBy(set) : set;
    }

    public int part(int q, int w, int mill) {
        if (!isWind(q, w) || !ridge.has(mill)) {
            return BAD;
        }
        Quarter wind = windOf(q, w);
        int set = wind.bestSet();
        int rest = wind.madeBy(set) - wind.madeBy(0);
        for (int i = 0; i < ridge.count; i++) {
            rest -= wind.lossBy(i, set);
        }
        if (rest < 0) {
            return NONE;
        }
        int loss = wind.lossBy(mill, set);
        return mill == 0 ? loss + rest : loss;
    }

    public int still(int q, int w, int a, int b, int what) {
        if (!isWind(q, w) || !ridge.has(a) || !ridge.has(b) || a == b || !isWithin(what, 0, 2)) {
            return BAD;
        }
        Quarter wind = windOf(q, w);
        int gain = wind.gainBy(b, 1 << a);
        int loss = wind.lossBy(a, 1 << a);
        switch (what) {
            case 0: return gain;
            case 1: return loss;
            default: return bit(gain - loss >= ridge.price);
        }
    }

    public int higher(int q, int w, int mill, int what) {
        if (!isWind(q, w) || !ridge.has(mill) || !isWithin(what, 0, 2)) {
            return BAD;
        }
        Quarter wind = windOf(q, w);
        int own = wind.grindsBy(mill, 0);
        int others = wind.madeBy(0) - own;
        if (what == 2) {
            // A felled mill grinds nothing: what is made then, the others grind.
            return wind.madeBy(1 << mill) - others;
        }
        wind.survey(ridge, q, mill);
        int ownThen = wind.grindsBy(mill, 0);
        int othersThen = wind.madeBy(0) - ownThen;
        return what == 0 ? ownThen - own : others - othersThen;
    }

    public int owes(int q, int w, int a, int b) {
        if (!isWind(q, w) || !ridge.has(a) || !ridge.has(b) || a == b) {
            return BAD;
        }
        Quarter wind = windOf(q, w);
        boolean older = ridge.mills[b].age > ridge.mills[a].age;
        if (!older || !wind.takesFrom(a, b)) {
            return 0;
        }
        return ridge.due * wind.gainBy(b, 1 << a) / 100;
    }

    public int night(int q, int w, int n, int row, int i) {
        if (ridge.isNone()) {
            return STATE;
        }
        if (!isWind(q, w) || !isWithin(n, 1, 24) || !isRow(row) || i < -1) {
            return BAD;
        }
        Row ground = rows[row];
        if (ground.isMissing()) {
            return found(NULL);
        }
        if (!ground.covers(0, ridge.count)) {
            return found(PLACE);
        }
        return unfound(nightSet(windOf(q, w), n, ground, i));
    }

    public int years(int n, int seed, int mill) {
        if (ridge.isNone()) {
            return STATE;
        }
        boolean asked = mill == NOBODY || ridge.has(mill);
        if (!isWithin(n, 1, 1000) || !isWithin(seed, 1, 999999) || !asked) {
            return BAD;
        }
        for (int q = 0; q < QUARTERS; q++) {
            quarters[q].survey(ridge, q, NOBODY);
        }
        int ground = 0;
        long x = seed;
        for (int k = 0; k < n; k++) {
            x = x * DRAW_FACTOR % DRAW_MODULUS;
            // x is above 0: the rest of it by 4 is its lowest two bits.
            Quarter wind = quarters[(int) (x & 3)];
            x = x * DRAW_FACTOR % DRAW_MODULUS;
            wind.blow((int) (x % 101));
            ground += mill == NOBODY ? wind.strengthOfAll() : wind.strengthOf(mill, 0);
        }
        return ground;
    }

    public int image(int k) {
        if (!isWithin(k, 0, IMAGES - 1)) {
            return BAD;
        }
        if (ridge.isNone()) {
            return STATE;
        }
        images[k].become(ridge);
        return 1;
    }

    public int restore(int k) {
        if (!isWithin(k, 0, IMAGES - 1)) {
            return BAD;
        }
        if (images[k].isNone()) {
            return STATE;
        }
        ridge.become(images[k]);
        return 1;
    }

    // ---- asked.

    public int kind(int mill) {
        return ridge.has(mill) ? ridge.mills[mill].kind : BAD;
    }

    public int as(int mill, int kind) {
        if (!ridge.has(mill) || !isWithin(kind, MILL, RUIN)) {
            return BAD;
        }
        return isKind(ridge.mills[mill].kind, kind) ? unfound(mill) : found(KIND);
    }

    public int ask(int mill, int what) {
        if (!ridge.has(mill) || !isWithin(what, 0, 1)) {
            return BAD;
        }
        Mill one = ridge.mills[mill];
        trace.length = 0;
        return gives(what == 0 ? sizeBody(one) : markBody(one), one, trace, 0);
    }

    public int trace(int i) {
        return i >= 0 && i < trace.length ? trace.numbers[i] : NONE;
    }

    public int count(int what) {
        switch (what) {
            case 0: return rowsThere();
            case 1: return ridge.count;
            case 2: return ridge.gone;
            case 3: return ridge.flourInAll();
            case 4: return Integer.bitCount(ridge.furledSet());
            case 5: return reader.tape.length;
            default: return BAD;
        }
    }

    public int status() {
        return status;
    }

    // What the calls share.

    private int found(int finding) {
        status = finding;
        return FINDINGS - finding;
    }

    private int unfound(int answer) {
        status = 0;
        return answer;
    }

    private static boolean isWithin(int v, int least, int most) {
        return v >= least && v <= most;
    }

    private static boolean isRow(int row) {
        return isWithin(row, 0, MOST_ROWS - 1);
    }

    private static boolean isQuarter(int q) {
        return isWithin(q, 0, QUARTERS - 1);
    }

    private static boolean isWind(int q, int w) {
        return isQuarter(q) && isWithin(w, 0, MOST_WIND);
    }

    private static int bit(boolean is) {
        return is ? 1 : 0;
    }

    /** The quarter of a wind in a row: none for an item below 0, though that divided may be 0. */
    private static int quarterOf(int item) {
        return item < 0 ? NOBODY : item / 1000;
    }

    private static int strengthOf(int item) {
        return item % 1000;
    }

    private int rowsThere() {
        int there = 0;
        for (int i = 0; i < MOST_ROWS; i++) {
            there += bit(!rows[i].isMissing());
        }
        return there;
    }

    /** The ridge as it stands now, in wind of a quarter and a strength. */
    private Quarter windOf(int q, int w) {
        Quarter wind = quarters[q];
        wind.survey(ridge, q, NOBODY);
        wind.blow(w);
        return wind;
    }

    /** One hour goes by: what all grind. */
    private int pass(int q, int w) {
        Quarter wind = windOf(q, w);
        int all = 0;
        for (int i = 0; i < ridge.count; i++) {
            Mill one = ridge.mills[i];
            int ground = wind.grindsBy(i, 0);
            one.corn -= ground;
            one.flour += ground;
            one.wear += wind.wearOf(i);
            all += ground;
        }
        ridge.gone++;
        return all;
    }

    /** Of the sets by which each mill would have ground what the row tells: how many (i = -1), or the i-th. */
    private int nightSet(Quarter wind, int n, Row ground, int i) {
        int furled = ridge.furledSet();
        int fitting = 0;
        for (int set = 0; set < 1 << ridge.count; set++) {
            if ((set & furled) == 0 && wind.wouldGrind(ground.items, n, set)) {
                if (fitting == i) {
                    return set;
                }
                fitting++;
            }
        }
        return i == -1 ? fitting : NONE;
    }

    /** Whether a mill told of a kind is one of the asked kind, by itself or by a kind that it is, too. */
    private static boolean isKind(int told, int asked) {
        int kind = told;
        for (int i = 0; i < NEXT_KIND.length && kind != asked; i++) {
            if (kind <= MILL || kind >= NEXT_KIND.length) {
                return false;
            }
            kind = NEXT_KIND[kind];
        }
        return kind == asked;
    }

    private static int sizeBody(Mill one) {
        return isWithin(one.kind, MILL, RUIN) ? SIZE_BODY[one.kind] : SIZE_BODY[MILL];
    }

    private static int markBody(Mill one) {
        return isWithin(one.kind, MILL, RUIN) ? MARK_BODY[one.kind] : MARK_BODY[MILL];
    }

    /** What a body gives for a mill; SIZE and MARK within it are asked of the same mill anew. */
    private static int gives(int body, Mill one, Trace trace, int depth) {
        if (depth > DEEPEST_ASK) {
            return 0;
        }
        trace.leave(body);
        int deeper = depth + 1;
        switch (body) {
            case 10: return one.flour;
            case 11: return gives(10, one, trace, deeper) + gives(markBody(one), one, trace, deeper);
            case 12: return 0 - gives(11, one, trace, deeper);
            case 13: return gives(10, one, trace, deeper) - 100;
            case 14: return 2 * gives(11, one, trace, deeper);
            case 20: return one.number;
            case 21: return gives(20, one, trace, deeper) + 10 * one.floors;
            case 22: return gives(21, one, trace, deeper) - one.age;
            case 23: return gives(20, one, trace, deeper) + gives(sizeBody(one), one, trace, deeper);
            case 24: return 2 * gives(22, one, trace, deeper);
            default: return 0;
        }
    }

    /** Items of one lane, or the place of a row that is missing. */
    private static final class Row {
        final int[] items = new int[MOST_ITEMS];
        int lane;
        int size = MISSING;

        boolean isMissing() {
            return size == MISSING;
        }

        void lay(int newLane, int n) {
            lane = newLane;
            size = n;
            for (int i = 0; i < MOST_ITEMS; i++) {
                items[i] = 0;
            }
        }

        /** Whether n items from i on all have a place; told so that no sum can wrap around. */
        boolean covers(int i, int n) {
            return i >= 0 && n >= 0 && n <= size - i;
        }

        int put(int i, int v) {
            items[i] = narrowed(v);
            return items[i];
        }

        private int narrowed(int v) {
            switch (lane) {
                case BYTES: return (byte) v;
                case SHORTS: return (short) v;
                default: return v;
            }
        }
    }

    /** The text that is fed, until it is read. */
    private static final class Tape {
        final byte[] bytes = new byte[MOST_BYTES];
        int length;

        void append(long w, int n) {
            for (int i = n - 1; i >= 0; i--) {
                bytes[length] = (byte) (w >> 8 * i);
                length++;
            }
        }

        /** Where the blanks end that stand from a place on. */
        int blanksEnd(int from) {
            int i = from;
            while (i < length && (bytes[i] == ' ' || bytes[i] == '\n')) {
                i++;
            }
            return i;
        }

        int lettersEnd(int from) {
            int i = from;
            while (i < length && bytes[i] >= 'a' && bytes[i] <= 'z') {
                i++;
            }
            return i;
        }

        int figuresEnd(int from) {
            int i = from;
            while (i < length && bytes[i] >= '0' && bytes[i] <= '9') {
                i++;
            }
            return i;
        }

        /** The number that a run of figures tells. */
        int valueOf(int from, int to) {
            int value = 0;
            for (int i = from; i < to && i < length; i++) {
                value = value * 10 + bytes[i] - '0';
            }
            return value;
        }

        boolean tells(String name, int from, int to) {
            if (to - from != name.length() || to > length) {
                return false;
            }
            for (int i = from; i < to; i++) {
                if (bytes[i] != name.charAt(i - from)) {
                    return false;
                }
            }
            return true;
        }
    }

    /** Reads the tape into a draft of a ridge, token by token, up to its first fault. */
    private static final class Reader {
        final Tape tape = new Tape();
        private int token;
        private int start;
        private int end;
        private int number;
        private int fault;
        int faultPlace;

        /** The number of the fault, or 0. */
        int read(Ridge draft) {
            end = 0;
            fault = 0;
            draft.count = 0;
            draft.gone = 0;
            step();
            readLaw(draft);
            readMill(draft);
            for (int i = 0; i < MOST_MILLS && fault == 0 && token != END; i++) {
                readMill(draft);
            }
            return fault;
        }

        private void readLaw(Ridge draft) {
            takeName("law");
            draft.take = takeNumber(0, 90);
            draft.due = takeNumber(0, 50);
            draft.price = takeNumber(0, 99);
            takeSign();
        }

        private void readMill(Ridge draft) {
            boolean full = draft.count >= MOST_MILLS;
            if (full && isName("mill")) {
                refuse(NO_ROOM);
            }
            takeName("mill");
            if (full || fault != 0) {
                return;
            }
            Mill one = draft.mills[draft.count];
            one.begin(draft.count, takeSort());
            one.x = takeNumber(0, MOST_SIDE);
            if (token == NUMBER && draft.isTaken(one.x, number)) {
                refuse(NOT_AS_TOLD);
            }
            one.y = takeNumber(0, MOST_SIDE);
            one.floors = takeNumber(1, MOST_FLOORS);
            one.sails = takeNumber(1, 9);
            one.age = takeNumber(0, 99);
            one.corn = takeNumber(0, 999);
            takeSign();
            draft.count++;
        }

        /** Tells a fault of the token, unless one was told ahead of it. */
        private void refuse(int fitting) {
            if (fault == 0) {
                fault = fitting;
                faultPlace = start;
            }
        }

        private void takeName(String name) {
            take(isName(name));
        }

        private void takeSign() {
            take(token == SIGN);
        }

        private int takeSort() {
            int kind = MILL;
            for (int k = FIXED; k <= RUIN; k++) {
                if (isName(sortName(k))) {
                    kind = k;
                }
            }
            take(kind != MILL);
            return kind;
        }

        private int takeNumber(int least, int most) {
            if (token == NUMBER && !isWithin(number, least, most)) {
                refuse(NOT_AS_TOLD);
            }
            int taken = number;
            take(token == NUMBER);
            return taken;
        }

        /** Goes on behind a token that can stand here; stays at the first that has a fault. */
        private void take(boolean canStand) {
            if (!canStand) {
                refuse(CANNOT_STAND);
            }
            if (fault == 0) {
                step();
            }
        }

        private boolean isName(String name) {
            return token == NAME && tape.tells(name, start, end);
        }

        private void step() {
            start = tape.blanksEnd(end);
            int lettersEnd = tape.lettersEnd(start);
            int figuresEnd = tape.figuresEnd(start);
            if (start >= tape.length) {
                token = END;
            } else if (lettersEnd > start) {
                token = NAME;
                end = lettersEnd;
            } else if (figuresEnd - start > MOST_FIGURES) {
                token = NO_TOKEN;
            } else if (figuresEnd > start) {
                token = NUMBER;
                number = tape.valueOf(start, figuresEnd);
                end = figuresEnd;
            } else {
                token = tape.bytes[start] == ';' ? SIGN : NO_TOKEN;
                end = start + 1;
            }
        }

        private static String sortName(int kind) {
            switch (kind) {
                case FIXED: return "fixed";
                case HOODED: return "hooded";
                case HALF: return "half";
                case WATER: return "water";
                default: return "ruin";
            }
        }
    }

    private static final class Mill {
        int number;
        int kind;
        int x;
        int y;
        int floors;
        int sails;
        int age;
        int corn;
        int flour;
        int wear;
        int facing;
        boolean furled;

        /** A mill as it is before its first hour. */
        void begin(int newNumber, int newKind) {
            number = newNumber;
            kind = newKind;
            flour = 0;
            wear = 0;
            facing = 0;
            furled = false;
        }

        void become(Mill other) {
            number = other.number;
            kind = other.kind;
            x = other.x;
            y = other.y;
            floors = other.floors;
            sails = other.sails;
            age = other.age;
            corn = other.corn;
            flour = other.flour;
            wear = other.wear;
            facing = other.facing;
            furled = other.furled;
        }

        boolean turnsIn(int q) {
            return !furled && kind != RUIN && (kind != FIXED || facing == q);
        }
    }

    /** A law, its mills and the hours gone; with no mill it is no ridge. */
    private static final class Ridge {
        final Mill[] mills = new Mill[MOST_MILLS];
        int count;
        int gone;
        int take;
        int due;
        int price;

        Ridge() {
            for (int i = 0; i < MOST_MILLS; i++) {
                mills[i] = new Mill();
            }
        }

        boolean isNone() {
            return count == 0;
        }

        boolean has(int mill) {
            return mill >= 0 && mill < count;
        }

        void become(Ridge other) {
            count = other.count;
            gone = other.gone;
            take = other.take;
            due = other.due;
            price = other.price;
            for (int i = 0; i < MOST_MILLS; i++) {
                mills[i].become(other.mills[i]);
            }
        }

        boolean isTaken(int x, int y) {
            for (int i = 0; i < count; i++) {
                if (mills[i].x == x && mills[i].y == y) {
                    return true;
                }
            }
            return false;
        }

        int furledSet() {
            int set = 0;
            for (int i = 0; i < count; i++) {
                set |= bit(mills[i].furled) << i;
            }
            return set;
        }

        int flourInAll() {
            int all = 0;
            for (int i = 0; i < count; i++) {
                all += mills[i].flour;
            }
            return all;
        }
    }

    /**
     * A ridge in wind of one quarter. It is surveyed and blown upon anew for each call, as a copy:
     * what is foretold changes nothing. A set tells who is furled beside those that are.
     */
    private static final class Quarter {
        final int[] behind = new int[MOST_MILLS];
        private final int[] after = new int[MOST_MILLS + 1];
        private final Ridge ridge = new Ridge();
        private int q;
        private int turning;
        private int taking;

        /** Sees who stands behind whom, turns and takes, one mill (or nobody) a floor higher than it is. */
        void survey(Ridge seen, int quarter, int raised) {
            ridge.become(seen);
            q = quarter;
            if (ridge.has(raised)) {
                Mill higher = ridge.mills[raised];
                higher.floors = Math.min(higher.floors + 1, MOST_FLOORS);
            }
            turning = 0;
            taking = 0;
            for (int i = 0; i < ridge.count; i++) {
                Mill one = ridge.mills[i];
                int turns = bit(one.turnsIn(q)) << i;
                turning |= turns;
                taking |= one.kind == WATER ? 0 : turns;
                behind[i] = 0;
                for (int j = 0; j < ridge.count; j++) {
                    behind[i] |= bit(isBehind(one, ridge.mills[j])) << j;
                }
            }
        }

        /** Whether another one stands 1 to 6 further towards the quarter, 1 at most aside, and is no lower. */
        private boolean isBehind(Mill one, Mill other) {
            if (other.floors < one.floors) {
                return false;
            }
            int east = other.x - one.x;
            int south = other.y - one.y;
            switch (q) {
                case 0: return isAhead(-south, east);
                case 1: return isAhead(east, south);
                case 2: return isAhead(south, east);
                default: return isAhead(-east, south);
            }
        }

        private static boolean isAhead(int ahead, int aside) {
            return isWithin(ahead, 1, 6) && isWithin(aside, -1, 1);
        }

        /** Keeps what is left of wind of a strength behind each number of mills that take. */
        void blow(int w) {
            after[0] = w;
            for (int i = 1; i <= MOST_MILLS; i++) {
                after[i] = after[i - 1] - ridge.take * after[i - 1] / 100;
            }
        }

        int windLeft(int mill, int set) {
            return after[Integer.bitCount(behind[mill] & taking & ~set)];
        }

        /** What a mill would grind in an hour, with corn without end. */
        int strengthOf(int mill, int set) {
            if ((turning & ~set & 1 << mill) == 0) {
                return 0;
            }
            Mill one = ridge.mills[mill];
            if (one.kind == WATER) {
                return 5 * one.sails;
            }
            int strength = windLeft(mill, set) * one.sails;
            return one.kind == HALF ? strength / 20 : strength / 10;
        }

        int strengthOfAll() {
            int all = 0;
            for (int i = 0; i < ridge.count; i++) {
                all += strengthOf(i, 0);
            }
            return all;
        }

        int grindsBy(int mill, int set) {
            return Math.min(strengthOf(mill, set), ridge.mills[mill].corn);
        }

        int madeBy(int set) {
            int all = 0;
            for (int i = 0; i < ridge.count; i++) {
                all += grindsBy(i, set);
            }
            return all;
        }

        /** How much more a mill grinds by a set than without it. */
        int gainBy(int mill, int set) {
            return Math.max(grindsBy(mill, set) - grindsBy(mill, 0), 0);
        }

        /** How much less a mill grinds by a set than without it. */
        int lossBy(int mill, int set) {
            return Math.max(grindsBy(mill, 0) - grindsBy(mill, set), 0);
        }

        int wearOf(int mill) {
            return (taking & 1 << mill) == 0 ? 0 : windLeft(mill, 0) / 10;
        }

        /** Whether b stands behind a, which takes. */
        boolean takesFrom(int a, int b) {
            return (taking & behind[b] & 1 << a) != 0;
        }

        int bestSet() {
            int bestSet = 0;
            int most = madeBy(0);
            for (int set = 1; set < 1 << ridge.count; set++) {
                int made = madeBy(set);
                // Sets come from the least on: among as few mills the first stays.
                boolean fewer = Integer.bitCount(set) < Integer.bitCount(bestSet);
                if (made > most || made == most && fewer) {
                    most = made;
                    bestSet = set;
                }
            }
            return bestSet;
        }

        /** Whether by a set each mill would grind just what the items tell, in n hours of this wind. */
        boolean wouldGrind(int[] items, int n, int set) {
            for (int i = 0; i < ridge.count && i < items.length; i++) {
                int ground = Math.min(n * strengthOf(i, set), ridge.mills[i].corn);
                if (ground != items[i]) {
                    return false;
                }
            }
            return true;
        }
    }

    /** The bodies that the latest ask began. */
    private static final class Trace {
        final int[] numbers = new int[MOST_TRACED];
        int length;

        void leave(int body) {
            if (length < MOST_TRACED) {
                numbers[length] = body;
                length++;
            }
        }
    }
}
