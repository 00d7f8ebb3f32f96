/** A ceiling in one go: strips rolled by hands, and the seams that are seen where it was dry. */
public final class OneGoCeiling {
    private static final int LOW = -1000000000;
    private static final int BEYOND = 1;
    private static final int NONE = 2;
    private static final int STATE = 3;
    private static final int FULL = 4;
    private static final int KIND = 5;

    private static final int LONGEST_PAUSE = 500;
    private static final int MOST_DAYS = 30;
    private static final int MOST_SEEN = 9999;
    private static final int FAULT = -10;

    private final State now = new State();
    private final State kept = new State();
    private final Reader reader = new Reader();
    private final Eye eye = new Eye(now.dries, now.light);
    private final Thought thought = new Thought(eye);
    private final Voices voices = new Voices();
    private final Sheet[] sheets = {new Sheet(), new Sheet(), new Sheet(), new Sheet()};
    private final Row errors = new Row(KIND + 1);
    private int images = 0;

    public OneGoCeiling() {
        errors.fill(KIND + 1, 0);
    }

    // ---- the ceiling, the can, hands

    public int ceiling(int rows, int strips) {
        if (!within(rows, 1, Ceiling.MOST) || !within(strips, 1, Ceiling.MOST)) {
            return error(BEYOND);
        }
        now.ceiling.build(rows, strips);
        return rows * strips;
    }

    public int set(int what, int v) {
        if (!Ceiling.isSetting(what, v)) {
            return error(BEYOND);
        }
        return now.ceiling.change(what, v);
    }

    public int ofCell(int cell, int what) {
        Ceiling c = now.ceiling;
        if (!c.isCell(cell) || !within(what, 0, 3)) {
            return error(BEYOND);
        }
        int row = c.rowOf(cell);
        int strip = c.stripOf(cell);
        switch (what) {
            case 0:
                return c.whenAt(row, strip);
            case 1:
                return c.whiteAt(row, strip);
            case 2:
                return eye.driesOf(row, strip, c.heat());
            default:
                return eye.isSeam(c, row, strip, strip, strip + 1, 0) ? 1 : 0;
        }
    }

    public int hand(int km) {
        if (!Kinds.isKindAndNumber(km)) {
            return error(BEYOND);
        }
        if (now.crew.isFull()) {
            return error(FULL);
        }
        return now.crew.join(km);
    }

    public int ofHand(int hand, int what) {
        if (!now.crew.has(hand) || !within(what, 0, 5)) {
            return error(BEYOND);
        }
        int kind = now.crew.kindOf(hand);
        int m = now.crew.numberOf(hand);
        switch (what) {
            case 0:
                return kind;
            case 1:
                return m;
            case 2:
                return Kinds.pace(kind, m, 0);
            case 3:
                return Kinds.pace(kind, m, 3);
            case 4:
                return Kinds.load(kind, m);
            default:
                return Kinds.uses(kind, m);
        }
    }

    public int become(int hand, int km) {
        if (!now.crew.has(hand) || !Kinds.isKindAndNumber(km)) {
            return error(BEYOND);
        }
        return now.crew.turnInto(hand, km);
    }

    public int as(int hand, int kind) {
        if (!now.crew.has(hand) || !Kinds.isKind(kind)) {
            return error(BEYOND);
        }
        if (!Kinds.isUnder(now.crew.kindOf(hand), kind)) {
            return error(KIND);
        }
        return now.crew.numberOf(hand);
    }

    // ---- texts

    public int feed(long word, int n) {
        if (!within(n, 1, 8)) {
            return error(BEYOND);
        }
        if (now.tape.length() + n > State.TAPE) {
            return error(FULL);
        }
        for (int i = 0; i < n; i++) {
            now.tape.add((int) ((word >>> (8 * i)) & 255L));
        }
        return now.tape.length();
    }

    public int text(int use) {
        Text target = textOf(use);
        if (target == null) {
            return error(BEYOND);
        }
        int fault = reader.read(now.tape, target);
        now.tape.clear();
        if (fault >= 0) {
            return FAULT - fault;
        }
        eye.forget();
        return 1;
    }

    public int law(int use, int a, int b, int c) {
        Text text = textOf(use);
        return text == null ? error(BEYOND) : text.value(a, b, c);
    }

    // ---- what is done

    public int roll(int hand, int strip, int up) {
        if (!now.crew.has(hand) || !now.ceiling.isStrip(strip) || !within(up, 0, 1)) {
            return error(BEYOND);
        }
        if (!now.ceiling.mayBeRolled()) {
            return error(STATE);
        }
        now.ceiling.paint(now.crew.kindOf(hand), now.crew.numberOf(hand), strip, up == 1);
        return now.ceiling.minute();
    }

    public int minutes(int n) {
        if (!within(n, 1, LONGEST_PAUSE)) {
            return error(BEYOND);
        }
        if (now.ceiling.minute() + n > Ceiling.LAST_MINUTE) {
            return error(STATE);
        }
        now.ceiling.letPass(n);
        return now.ceiling.minute();
    }

    public int days(int n) {
        if (!within(n, 1, MOST_DAYS)) {
            return error(BEYOND);
        }
        if (now.crew.size() == 0) {
            return error(STATE);
        }
        for (int i = 0; i < n; i++) {
            now.passDay();
        }
        return eye.seen(now.ceiling);
    }

    // ---- what would be

    public int seams(int what) {
        if (!within(what, 0, 1)) {
            return error(BEYOND);
        }
        return what == 0 ? eye.countSeams(now.ceiling) : eye.seen(now.ceiling);
    }

    public int done(int hand, int sheet) {
        Sheet s = sheetOf(sheet);
        if (!now.crew.has(hand) || s == null) {
            return error(BEYOND);
        }
        if (s.isMissing()) {
            return error(NONE);
        }
        if (!thought.takeOrder(s.numbers, now.ceiling.strips())) {
            return error(STATE);
        }
        thought.rollAll(now, hand);
        return thought.seenByOrder();
    }

    public int order(int hand, int what) {
        if (!now.crew.has(hand) || !within(what, -1, now.ceiling.strips() - 1)) {
            return error(BEYOND);
        }
        thought.rollAll(now, hand);
        thought.weighPlaces();
        thought.findBelow(Thought.BEYOND_ALL_SEEN);
        return what == -1 ? thought.best() : thought.bestStripAt(what);
    }

    public int clean(int hand, int what) {
        if (!now.crew.has(hand) || !within(what, 0, 1)) {
            return error(BEYOND);
        }
        thought.rollAll(now, hand);
        for (int i = 0; i <= Ceiling.MOST_HEAT; i++) {
            int heat = what == 0 ? i : Ceiling.MOST_HEAT - i;
            thought.warmTo(heat);
            thought.weighPlaces();
            thought.findBelow(1);
            if (thought.best() == 0) {
                return heat;
            }
        }
        return error(NONE);
    }

    public int called(int hand, int s, int n) {
        if (!now.crew.has(hand) || !isLaterStrip(s) || !within(n, 0, LONGEST_PAUSE)) {
            return error(BEYOND);
        }
        thought.rollAll(now, hand);
        thought.weighPauses(n);
        return thought.seenCalledAhead(s);
    }

    public int worst(int hand, int n, int what) {
        if (!now.crew.has(hand) || !within(n, 0, LONGEST_PAUSE) || !within(what, 0, 1)) {
            return error(BEYOND);
        }
        if (now.ceiling.strips() == 1) {
            return error(NONE);
        }
        thought.rollAll(now, hand);
        thought.weighPauses(n);
        int s = thought.worstStrip();
        return what == 0 ? s : thought.seenCalledAhead(s);
    }

    public int howLong(int hand, int s) {
        if (!now.crew.has(hand) || !isLaterStrip(s)) {
            return error(BEYOND);
        }
        thought.rollAll(now, hand);
        return thought.longestPause(s, LONGEST_PAUSE);
    }

    public int cans(int hand) {
        if (!now.crew.has(hand)) {
            return error(BEYOND);
        }
        thought.rollAll(now, hand);
        return thought.cansBegun();
    }

    public int whose(int hand, int strip, int sheet) {
        Sheet s = sheetOf(sheet);
        if (!now.crew.has(hand) || !now.ceiling.isStrip(strip) || s == null) {
            return error(BEYOND);
        }
        if (s.isMissing() || s.numbers.length() != now.ceiling.rows()) {
            return error(NONE);
        }
        int kind = Kinds.leastBy(s.numbers, now.ceiling.minute(), now.crew.numberOf(hand));
        return kind < 0 ? error(NONE) : kind;
    }

    public int odds(int hand, int n, int v, int part) {
        if (!now.crew.has(hand) || !within(n, 0, LONGEST_PAUSE)
                || !within(v, 0, MOST_SEEN) || !within(part, 0, 1)) {
            return error(BEYOND);
        }
        thought.rollAll(now, hand);
        thought.weighPauses(n);
        int above = thought.waysSeenAtMost(v);
        int below = thought.waysOfPauses();
        if (above == 0) {
            return part;
        }
        for (int i = 0; i < Ceiling.MOST && above % 2 == 0 && below % 2 == 0; i++) {
            above /= 2;
            below /= 2;
        }
        return part == 0 ? above : below;
    }

    // ---- draws, voices, sheets, images, what is told

    public int seed(int v) {
        int was = now.z;
        now.z = v;
        return was;
    }

    public int voice(int hand, int act, int x) {
        if (!now.crew.has(hand) || !within(act, 0, Voices.ACTS - 1)) {
            return error(BEYOND);
        }
        return voices.speak(now.crew, hand, act, x);
    }

    public int trace(int i) {
        return voices.heard().has(i) ? voices.heard().at(i) : error(NONE);
    }

    public int sheet(int sheet, int bits, int n) {
        Sheet s = sheetOf(sheet);
        if (s == null || !Sheet.isWidth(bits)) {
            return error(BEYOND);
        }
        if (bits == 0) {
            s.remove();
            return 1;
        }
        if (n < 0) {
            return error(STATE);
        }
        if (n > Sheet.MOST) {
            return error(BEYOND);
        }
        s.renew(bits, n);
        return 1;
    }

    public int put(int sheet, int i, int v) {
        Sheet s = sheetOf(sheet);
        if (s == null) {
            return error(BEYOND);
        }
        if (s.isMissing()) {
            return error(NONE);
        }
        if (!s.numbers.has(i)) {
            return error(BEYOND);
        }
        s.write(i, v);
        return 1;
    }

    public int move(int sheet, int i, int other, int j, int n) {
        Sheet from = sheetOf(sheet);
        Sheet to = sheetOf(other);
        if (from == null || to == null) {
            return error(BEYOND);
        }
        if (from.isMissing() || to.isMissing()) {
            return error(NONE);
        }
        if (from.bits() != to.bits()) {
            return error(KIND);
        }
        if (!from.numbers.hasRun(i, n) || !to.numbers.hasRun(j, n)) {
            return error(BEYOND);
        }
        to.numbers.takeRun(j, from.numbers, i, n);
        return n;
    }

    public int whites(int sheet) {
        Sheet s = sheetOf(sheet);
        if (s == null) {
            return error(BEYOND);
        }
        if (s.isMissing()) {
            return error(NONE);
        }
        return now.ceiling.whiten(s.numbers);
    }

    public int judge(int sheet) {
        Sheet s = sheetOf(sheet);
        if (s == null) {
            return error(BEYOND);
        }
        if (s.isMissing()) {
            return error(NONE);
        }
        return now.ceiling.firstOtherWhen(s.numbers);
    }

    public int image() {
        kept.take(now);
        images++;
        return images;
    }

    public int restore() {
        if (images == 0) {
            return error(NONE);
        }
        now.take(kept);
        eye.forget();
        return now.ceiling.minute();
    }

    public int tell(int v) {
        if (!now.waiting.add(v)) {
            return error(FULL);
        }
        return now.waiting.length();
    }

    public int check() {
        boolean hasHand = now.crew.has(0);
        int answer = 0;
        thought.begin(now);
        for (int i = 0; i < now.waiting.length() && answer == 0; i++) {
            if (hasHand) {
                thought.rollNext(now, 0, i);
            }
            if (!hasHand || eye.seen(thought.wouldBe()) != now.waiting.at(i)) {
                answer = 1 + i;
            }
        }
        now.waiting.clear();
        return answer;
    }

    public int count(int what) {
        switch (what) {
            case 0:
                return now.ceiling.cells();
            case 1:
                return now.crew.size();
            case 2:
                return now.ceiling.minute();
            case 3:
                return now.ceiling.rolledCells();
            case 4:
                return now.ceiling.left();
            case 5:
                return now.ceiling.canWhite();
            case 6:
                return now.ceiling.canSize();
            case 7:
                return now.ceiling.heat();
            case 8:
                return now.tape.length();
            case 9:
                return now.waiting.length();
            case 10:
                return voices.heard().length();
            case 11:
                return now.z;
            default:
                return error(BEYOND);
        }
    }

    public int told(int k) {
        return within(k, BEYOND, KIND) ? errors.at(k) : error(BEYOND);
    }

    private int error(int k) {
        errors.write(k, errors.at(k) + 1);
        return LOW - k;
    }

    private static boolean within(int v, int least, int most) {
        return v >= least && v <= most;
    }

    private boolean isLaterStrip(int s) {
        return s != 0 && now.ceiling.isStrip(s);
    }

    private Text textOf(int use) {
        if (use == Text.DRIES) {
            return now.dries;
        }
        return use == Text.LIGHT ? now.light : null;
    }

    private Sheet sheetOf(int i) {
        return i >= 0 && i < sheets.length ? sheets[i] : null;
    }

    /** Numbers in a row, never more than its limit; here alone an index meets an array. */
    static final class Row {
        private final int[] numbers;
        private int length = 0;

        Row(int limit) {
            numbers = new int[Math.max(0, limit)];
        }

        int length() {
            return length;
        }

        boolean has(int i) {
            return i >= 0 && i < length && i < numbers.length;
        }

        boolean hasRun(int i, int n) {
            return i >= 0 && n >= 0 && n <= length && i <= length - n;
        }

        int at(int i) {
            return i >= 0 && i < length && i < numbers.length ? numbers[i] : 0;
        }

        void write(int i, int v) {
            if (i >= 0 && i < length && i < numbers.length) {
                numbers[i] = v;
            }
        }

        boolean add(int v) {
            if (length < 0 || length >= numbers.length) {
                return false;
            }
            numbers[length] = v;
            length++;
            return true;
        }

        void clear() {
            length = 0;
        }

        void fill(int n, int v) {
            length = Math.max(0, Math.min(n, numbers.length));
            for (int i = 0; i < length && i < numbers.length; i++) {
                numbers[i] = v;
            }
        }

        void take(Row other) {
            length = Math.min(other.length, numbers.length);
            for (int i = 0; i < length && i < numbers.length; i++) {
                numbers[i] = other.at(i);
            }
        }

        /** The run may overlap the one that it comes from: so it goes from the end that is still whole. */
        void takeRun(int j, Row from, int i, int n) {
            if (i >= j) {
                for (int k = 0; k < n; k++) {
                    write(j + k, from.at(i + k));
                }
            } else {
                for (int k = n - 1; k >= 0; k--) {
                    write(j + k, from.at(i + k));
                }
            }
        }
    }

    /** The kinds of hands, each under another, and what each needs. */
    static final class Kinds {
        static final int HAND = 0;
        static final int BRUSHING = 1;
        static final int ROLLING = 2;
        static final int SPRAYING = 3;
        static final int STILTED = 4;
        static final int TIRED = 5;
        static final int DRIPPING = 6;
        static final int COUNT = 7;

        private static final int[] ABOVE = {-1, HAND, HAND, HAND, BRUSHING, ROLLING, SPRAYING};
        private static final int HAND_PACE = 2;
        private static final int BRUSHING_PACE = HAND_PACE + 1;
        private static final int ROLLING_PACE = 1;
        private static final int HAND_LOAD = 2;
        private static final int ROLLING_LOAD = 3;
        private static final int SPRAYING_LOAD = 9;
        private static final int HAND_USES = 1;
        private static final int SPRAYING_USES = 2;

        private Kinds() {
        }

        static boolean isKind(int kind) {
            return kind >= 0 && kind < COUNT;
        }

        static boolean isKindAndNumber(int km) {
            return km >= 0 && km < 10 * COUNT;
        }

        static int above(int kind) {
            return kind >= 0 && kind < ABOVE.length ? ABOVE[kind] : -1;
        }

        static boolean isUnder(int kind, int other) {
            int k = kind;
            for (int i = 0; i < COUNT && k >= 0; i++) {
                if (k == other) {
                    return true;
                }
                k = above(k);
            }
            return false;
        }

        static int pace(int kind, int m, int k) {
            switch (kind) {
                case BRUSHING:
                    return BRUSHING_PACE;
                case STILTED:
                    return BRUSHING_PACE + m / 4;
                case ROLLING:
                    return ROLLING_PACE;
                case TIRED:
                    return ROLLING_PACE + k / 3;
                case SPRAYING:
                case DRIPPING:
                    return k % 2 == 0 ? 1 : 0;
                default:
                    return HAND_PACE;
            }
        }

        static int load(int kind, int m) {
            switch (kind) {
                case ROLLING:
                    return ROLLING_LOAD + m % 3;
                case TIRED:
                    return ROLLING_LOAD + m % 3 - 1;
                case SPRAYING:
                    return SPRAYING_LOAD;
                case DRIPPING:
                    return SPRAYING_LOAD / 2;
                default:
                    return HAND_LOAD;
            }
        }

        static int uses(int kind, int m) {
            switch (kind) {
                case SPRAYING:
                    return SPRAYING_USES;
                case DRIPPING:
                    return SPRAYING_USES + m % 2;
                default:
                    return HAND_USES;
            }
        }

        /** MINUTES until the k-th CELL of a strip is done, from the one before: a new load, and the pace. */
        static int minutesFor(int kind, int m, int k) {
            int load = load(kind, m);
            boolean isNewLoad = k != 0 && load > 0 && k % load == 0;
            return pace(kind, m, k) + (isNewLoad ? 1 : 0);
        }

        /** The least kind that, beginning at a minute, does its cells at just these; -1: none. */
        static int leastBy(Row whens, int minute, int m) {
            for (int kind = 0; kind < COUNT; kind++) {
                if (doesAt(whens, minute, kind, m)) {
                    return kind;
                }
            }
            return -1;
        }

        private static boolean doesAt(Row whens, int minute, int kind, int m) {
            int then = minute;
            for (int k = 0; k < whens.length(); k++) {
                then += minutesFor(kind, m, k);
                if (whens.at(k) != then) {
                    return false;
                }
            }
            return true;
        }
    }

    /** The hands, by the numbers that they were given. */
    static final class Crew {
        private static final int MOST = 6;

        private final Row kinds = new Row(MOST);
        private final Row ms = new Row(MOST);

        int size() {
            return kinds.length();
        }

        boolean isFull() {
            return size() >= MOST;
        }

        boolean has(int hand) {
            return kinds.has(hand);
        }

        int kindOf(int hand) {
            return kinds.at(hand);
        }

        int numberOf(int hand) {
            return ms.at(hand);
        }

        int join(int km) {
            kinds.add(km / 10);
            ms.add(km % 10);
            return size() - 1;
        }

        int turnInto(int hand, int km) {
            int was = kindOf(hand);
            kinds.write(hand, km / 10);
            ms.write(hand, km % 10);
            return was;
        }

        void take(Crew other) {
            kinds.take(other.kinds);
            ms.take(other.ms);
        }
    }

    /** The ceiling with its cells, the can, the minute and the heat. */
    static final class Ceiling {
        static final int MOST = 6;
        static final int MOST_HEAT = 9;
        static final int LAST_MINUTE = 9999;

        private static final int LAST_START = 9900;
        private static final int HEAT = 0;
        private static final int LEFT = 1;
        private static final int WHITE = 2;
        private static final int SIZE = 3;
        private static final int MOST_WHITE = 99;
        private static final int MOST_LEFT = 99;
        private static final int UNROLLED = -1;

        private final Row whens = new Row(MOST * MOST);
        private final Row whites = new Row(MOST * MOST);
        private int rows = 4;
        private int strips = 4;
        private int minute = 0;
        private int heat = 3;
        private int left = 20;
        private int canWhite = 0;
        private int canSize = 20;
        private int cansBegun = 0;

        Ceiling() {
            whens.fill(rows * strips, UNROLLED);
            whites.fill(rows * strips, 0);
        }

        void build(int newRows, int newStrips) {
            rows = newRows;
            strips = newStrips;
            whens.fill(rows * strips, UNROLLED);
            whites.fill(rows * strips, 0);
        }

        int rows() {
            return rows;
        }

        int strips() {
            return strips;
        }

        int cells() {
            return whens.length();
        }

        int minute() {
            return minute;
        }

        int heat() {
            return heat;
        }

        int left() {
            return left;
        }

        int canWhite() {
            return canWhite;
        }

        int canSize() {
            return canSize;
        }

        int cansBegun() {
            return cansBegun;
        }

        boolean isCell(int cell) {
            return whens.has(cell);
        }

        boolean isStrip(int strip) {
            return strip >= 0 && strip < strips;
        }

        int rowOf(int cell) {
            return strips > 0 ? cell / strips : 0;
        }

        int stripOf(int cell) {
            return strips > 0 ? cell % strips : 0;
        }

        int whenAt(int row, int strip) {
            return isStrip(strip) ? whens.at(row * strips + strip) : UNROLLED;
        }

        int whiteAt(int row, int strip) {
            return isStrip(strip) ? whites.at(row * strips + strip) : 0;
        }

        int rolledCells() {
            int n = 0;
            for (int i = 0; i < whens.length(); i++) {
                if (whens.at(i) != UNROLLED) {
                    n++;
                }
            }
            return n;
        }

        static boolean isSetting(int what, int v) {
            switch (what) {
                case HEAT:
                    return v >= 0 && v <= MOST_HEAT;
                case LEFT:
                    return v >= 0 && v <= MOST_LEFT;
                case WHITE:
                    return v >= 0 && v <= MOST_WHITE;
                case SIZE:
                    return v >= 1 && v <= MOST_LEFT;
                default:
                    return false;
            }
        }

        int change(int what, int v) {
            int was;
            switch (what) {
                case HEAT:
                    was = heat;
                    heat = v;
                    return was;
                case LEFT:
                    was = left;
                    left = v;
                    return was;
                case WHITE:
                    was = canWhite;
                    canWhite = v;
                    return was;
                default:
                    was = canSize;
                    canSize = v;
                    return was;
            }
        }

        void warmTo(int newHeat) {
            heat = newHeat;
        }

        boolean mayBeRolled() {
            return minute <= LAST_START;
        }

        void letPass(int n) {
            minute += n;
        }

        void letPassWithinBounds(int n) {
            minute = Math.min(LAST_MINUTE, minute + n);
        }

        void paint(int kind, int m, int strip, boolean up) {
            int uses = Kinds.uses(kind, m);
            for (int k = 0; k < rows; k++) {
                if (left < uses) {
                    openCan();
                }
                left = Math.max(0, left - uses);
                minute += Kinds.minutesFor(kind, m, k);
                int cell = (up ? rows - 1 - k : k) * strips + strip;
                whens.write(cell, minute);
                whites.write(cell, canWhite);
            }
        }

        private void openCan() {
            left = canSize;
            canWhite = canWhite >= MOST_WHITE ? 0 : canWhite + 1;
            cansBegun++;
        }

        int whiten(Row numbers) {
            int n = Math.min(numbers.length(), whites.length());
            for (int i = 0; i < n; i++) {
                int white = numbers.at(i);
                if (white < 0 || white > MOST_WHITE) {
                    return i;
                }
                whites.write(i, white);
            }
            return n;
        }

        int firstOtherWhen(Row numbers) {
            int n = Math.min(numbers.length(), whens.length());
            for (int i = 0; i < n; i++) {
                if (numbers.at(i) != whens.at(i)) {
                    return i;
                }
            }
            return numbers.length() == whens.length() ? -1 : n;
        }

        /** As another one is, with no can begun yet. */
        void take(Ceiling other) {
            whens.take(other.whens);
            whites.take(other.whites);
            rows = other.rows;
            strips = other.strips;
            minute = other.minute;
            heat = other.heat;
            left = other.left;
            canWhite = other.canWhite;
            canSize = other.canSize;
            cansBegun = 0;
        }
    }

    /** The text of one use, as steps: each sign stands behind the two (of !, the one) that it joins. */
    static final class Text {
        static final int DRIES = 0;
        static final int LIGHT = 1;
        static final int MOST_STEPS = 50;
        static final int NAME = 10000;
        static final int SIGN = 20000;

        private static final int MOST = 99;

        private final int use;
        private final Row steps = new Row(MOST_STEPS);
        private final Row stack = new Row(MOST_STEPS);

        Text(int use) {
            this.use = use;
        }

        /** Which of the names a byte is; -1: none. */
        int nameOf(int sign) {
            if (sign == 'r') {
                return 0;
            }
            if (sign == 's') {
                return 1;
            }
            return sign == (use == DRIES ? 'h' : 'w') ? 2 : -1;
        }

        void takeSteps(Row newSteps) {
            steps.take(newSteps);
        }

        void take(Text other) {
            steps.take(other.steps);
        }

        int value(int a, int b, int c) {
            if (steps.length() == 0) {
                return held(use == DRIES ? 10 - c : 1 + c);
            }
            stack.fill(steps.length(), 0);
            int top = -1;
            for (int i = 0; i < steps.length(); i++) {
                int step = steps.at(i);
                if (step < NAME) {
                    top++;
                    stack.write(top, step);
                } else if (step < SIGN) {
                    top++;
                    stack.write(top, step == NAME ? a : step == NAME + 1 ? b : c);
                } else if (step == SIGN + '!') {
                    stack.write(top, stack.at(top) == 0 ? 1 : 0);
                } else {
                    top--;
                    stack.write(top, join(step - SIGN, stack.at(top), stack.at(top + 1)));
                }
            }
            return held(stack.at(top));
        }

        private static int held(int v) {
            return Math.max(0, Math.min(MOST, v));
        }

        private static int join(int sign, int x, int y) {
            switch (sign) {
                case '|':
                    return x != 0 || y != 0 ? 1 : 0;
                case '&':
                    return x != 0 && y != 0 ? 1 : 0;
                case '<':
                    return x < y ? 1 : 0;
                case '=':
                    return x == y ? 1 : 0;
                case '>':
                    return x > y ? 1 : 0;
                case '+':
                    return x + y;
                case '-':
                    return x - y;
                case '*':
                    return x * y;
                case '/':
                    return y == 0 ? 0 : x / y;
                default:
                    return y == 0 ? 0 : x % y;
            }
        }
    }

    /** Reads the tape as a text; it stops at the first byte with which no text goes on. */
    static final class Reader {
        private static final int MOST_OPEN = 5;
        private static final int MOST_DIGITS = 4;
        private static final int END = -1;

        private final Row steps = new Row(Text.MOST_STEPS);
        private Row tape = steps;
        private Text target = null;
        private int at = 0;
        private boolean fits = true;

        /** -1, and the target becomes the text read; or the fault, and it stays as it is. */
        int read(Row bytes, Text text) {
            tape = bytes;
            target = text;
            at = 0;
            fits = true;
            steps.clear();
            readT(0);
            if (!fits || at < tape.length()) {
                return at;
            }
            text.takeSteps(steps);
            return -1;
        }

        private int next() {
            return tape.has(at) ? tape.at(at) : END;
        }

        private boolean nextIs(int sign) {
            return fits && next() == sign;
        }

        private void emit(int sign) {
            steps.add(Text.SIGN + sign);
        }

        private void readT(int open) {
            readA(open);
            for (int i = 0; i < Text.MOST_STEPS && nextIs('|'); i++) {
                at++;
                readA(open);
                emit('|');
            }
        }

        private void readA(int open) {
            readB(open);
            for (int i = 0; i < Text.MOST_STEPS && nextIs('&'); i++) {
                at++;
                readB(open);
                emit('&');
            }
        }

        private void readB(int open) {
            readS(open);
            int sign = next();
            if (nextIs('<') || nextIs('=') || nextIs('>')) {
                at++;
                readS(open);
                emit(sign);
            }
        }

        private void readS(int open) {
            readP(open);
            for (int i = 0; i < Text.MOST_STEPS && (nextIs('+') || nextIs('-')); i++) {
                int sign = next();
                at++;
                readP(open);
                emit(sign);
            }
        }

        private void readP(int open) {
            readQ(open);
            for (int i = 0; i < Text.MOST_STEPS && (nextIs('*') || nextIs('/') || nextIs('%')); i++) {
                int sign = next();
                at++;
                readQ(open);
                emit(sign);
            }
        }

        private void readQ(int open) {
            int sign = next();
            if (!fits) {
                return;
            }
            if (isDigit(sign)) {
                readNumber();
            } else if (target != null && target.nameOf(sign) >= 0) {
                at++;
                steps.add(Text.NAME + target.nameOf(sign));
            } else if (sign == '!' && open < MOST_OPEN) {
                at++;
                readQ(open + 1);
                emit('!');
            } else if (sign == '(' && open < MOST_OPEN) {
                at++;
                readT(open + 1);
                if (nextIs(')')) {
                    at++;
                } else {
                    fits = false;
                }
            } else {
                fits = false;
            }
        }

        private void readNumber() {
            int v = 0;
            for (int i = 0; i < MOST_DIGITS && isDigit(next()); i++) {
                v = v * 10 + next() - '0';
                at++;
            }
            steps.add(v);
        }

        private static boolean isDigit(int sign) {
            return sign >= '0' && sign <= '9';
        }
    }

    /** All that an image keeps. */
    static final class State {
        static final int TAPE = 50;

        private static final int MOST_WAITING = 20;
        private static final int WAYS = 2;
        private static final int PAUSES = 8;

        final Ceiling ceiling = new Ceiling();
        final Crew crew = new Crew();
        final Text dries = new Text(Text.DRIES);
        final Text light = new Text(Text.LIGHT);
        final Row tape = new Row(TAPE);
        final Row waiting = new Row(MOST_WAITING);
        int z = 1;

        void take(State other) {
            ceiling.take(other.ceiling);
            crew.take(other.crew);
            dries.take(other.dries);
            light.take(other.light);
            tape.take(other.tape);
            waiting.take(other.waiting);
            z = other.z;
        }

        void passDay() {
            int hand = draw(crew.size());
            int strip = draw(ceiling.strips());
            int way = draw(WAYS);
            ceiling.letPassWithinBounds(draw(PAUSES));
            if (ceiling.mayBeRolled()) {
                ceiling.paint(crew.kindOf(hand), crew.numberOf(hand), strip, way == 1);
            }
        }

        private int draw(int n) {
            z = z * 1103515245 + 12345;
            return n > 0 ? (z >>> 8) % n : 0;
        }
    }

    /** Sees seams, by the two texts; remembers what they gave, for they are asked the same over and over. */
    static final class Eye {
        private static final int HEATS = Ceiling.MOST_HEAT + 1;
        private static final int WHITES = 100;

        private final Text dries;
        private final Text light;
        // What was given, and 1; 0: not asked yet.
        private final Row knownDries = new Row(Ceiling.MOST * Ceiling.MOST * HEATS);
        private final Row knownLight = new Row(Ceiling.MOST * (Ceiling.MOST - 1) * WHITES);

        Eye(Text dries, Text light) {
            this.dries = dries;
            this.light = light;
            knownDries.fill(Ceiling.MOST * Ceiling.MOST * HEATS, 0);
            knownLight.fill(Ceiling.MOST * (Ceiling.MOST - 1) * WHITES, 0);
        }

        void forget() {
            knownDries.fill(knownDries.length(), 0);
            knownLight.fill(knownLight.length(), 0);
        }

        int driesOf(int row, int strip, int heat) {
            int i = (row * Ceiling.MOST + strip) * HEATS + heat;
            if (knownDries.at(i) == 0) {
                knownDries.write(i, dries.value(row, strip, heat) + 1);
            }
            return knownDries.at(i) - 1;
        }

        int lightOf(int row, int strip, int difference) {
            int i = (row * (Ceiling.MOST - 1) + strip) * WHITES + difference;
            if (knownLight.at(i) == 0) {
                knownLight.write(i, light.value(row, strip, difference) + 1);
            }
            return knownLight.at(i) - 1;
        }

        /** Whether STRIPS s and s + 1 have a seam in a row, if s is as column p, and s + 1 as column q, a pause later. */
        boolean isSeam(Ceiling c, int row, int s, int p, int q, int pause) {
            int a = c.whenAt(row, p);
            int b = c.whenAt(row, q);
            if (a < 0 || b < 0) {
                return false;
            }
            if (c.whiteAt(row, p) != c.whiteAt(row, q)) {
                return true;
            }
            int behind = b + pause - a;
            return behind >= 0
                    ? behind > driesOf(row, s, c.heat())
                    : -behind > driesOf(row, s + 1, c.heat());
        }

        int seenBetween(Ceiling c, int s, int p, int q, int pause) {
            int sum = 0;
            for (int row = 0; row < c.rows(); row++) {
                if (isSeam(c, row, s, p, q, pause)) {
                    sum += lightOf(row, s, Math.abs(c.whiteAt(row, p) - c.whiteAt(row, q)));
                }
            }
            return sum;
        }

        int seen(Ceiling c) {
            int sum = 0;
            for (int s = 0; s + 1 < c.strips(); s++) {
                sum += seenBetween(c, s, s, s + 1, 0);
            }
            return sum;
        }

        int countSeams(Ceiling c) {
            int n = 0;
            for (int row = 0; row < c.rows(); row++) {
                for (int s = 0; s + 1 < c.strips(); s++) {
                    if (isSeam(c, row, s, s, s + 1, 0)) {
                        n++;
                    }
                }
            }
            return n;
        }
    }

    /**
     * What would be. The pace of a hand is the same on each strip: so the strips are rolled once, in
     * order, and column p of the thought ceiling tells any strip that is the p-th of another order.
     */
    static final class Thought {
        static final int BEYOND_ALL_SEEN = 1000000;

        private static final int NOT_PLACED = -1;

        private final Eye eye;
        private final Ceiling ceiling = new Ceiling();
        private final Row strips = new Row(Ceiling.MOST);
        private final Row places = new Row(Ceiling.MOST);
        private final Row bestStrips = new Row(Ceiling.MOST);
        private final Row seenByPlaces = new Row(Ceiling.MOST * Ceiling.MOST * Ceiling.MOST);
        private final Row seenWithout = new Row(Ceiling.MOST);
        private final Row seenWith = new Row(Ceiling.MOST);
        private int best = 0;

        Thought(Eye eye) {
            this.eye = eye;
        }

        void begin(State now) {
            ceiling.take(now.ceiling);
        }

        /** The strip at a place of the order 0, 1, .., and again from 0 behind the last. */
        void rollNext(State now, int hand, int place) {
            int strip = ceiling.strips() > 0 ? place % ceiling.strips() : 0;
            ceiling.paint(now.crew.kindOf(hand), now.crew.numberOf(hand), strip, false);
        }

        void rollAll(State now, int hand) {
            begin(now);
            for (int place = 0; place < ceiling.strips(); place++) {
                rollNext(now, hand, place);
            }
        }

        int cansBegun() {
            return ceiling.cansBegun();
        }

        Ceiling wouldBe() {
            return ceiling;
        }

        void warmTo(int heat) {
            ceiling.warmTo(heat);
        }

        /** Whether a row of numbers is one of all strips, each once; it is the order then. */
        boolean takeOrder(Row numbers, int n) {
            if (numbers.length() != n) {
                return false;
            }
            places.fill(n, NOT_PLACED);
            for (int i = 0; i < n; i++) {
                int s = numbers.at(i);
                if (!places.has(s) || places.at(s) != NOT_PLACED) {
                    return false;
                }
                places.write(s, i);
            }
            return true;
        }

        int seenByOrder() {
            int sum = 0;
            for (int s = 0; s + 1 < ceiling.strips(); s++) {
                sum += eye.seenBetween(ceiling, s, places.at(s), places.at(s + 1), 0);
            }
            return sum;
        }

        int best() {
            return best;
        }

        int bestStripAt(int place) {
            return bestStrips.at(place);
        }

        /** The first order of those that are seen least, if that is below a bound; best() is the bound else. */
        void findBelow(int bound) {
            strips.fill(ceiling.strips(), 0);
            places.fill(ceiling.strips(), NOT_PLACED);
            best = bound;
            extendOrder(0, 0);
        }

        /** Goes through all orders that begin as the strips up to a place; what is seen only grows with each. */
        private void extendOrder(int place, int seen) {
            int n = ceiling.strips();
            if (seen >= best || place > n) {
                return;
            }
            if (place == n) {
                best = seen;
                bestStrips.take(strips);
                return;
            }
            for (int s = 0; s < n; s++) {
                if (places.at(s) == NOT_PLACED) {
                    strips.write(place, s);
                    places.write(s, place);
                    extendOrder(place + 1, seen + seenBeside(s));
                    places.write(s, NOT_PLACED);
                }
            }
        }

        private int seenBeside(int s) {
            int sum = 0;
            if (places.has(s - 1) && places.at(s - 1) != NOT_PLACED) {
                sum += seenByPlaces.at(weightAt(s - 1, places.at(s - 1), places.at(s)));
            }
            if (places.has(s + 1) && places.at(s + 1) != NOT_PLACED) {
                sum += seenByPlaces.at(weightAt(s, places.at(s), places.at(s + 1)));
            }
            return sum;
        }

        private static int weightAt(int s, int p, int q) {
            return (s * Ceiling.MOST + p) * Ceiling.MOST + q;
        }

        /** What is seen between two neighbours, by any places in an order. */
        void weighPlaces() {
            int n = ceiling.strips();
            seenByPlaces.fill(Ceiling.MOST * Ceiling.MOST * Ceiling.MOST, 0);
            for (int s = 0; s + 1 < n; s++) {
                for (int p = 0; p < n; p++) {
                    for (int q = 0; q < n; q++) {
                        if (p != q) {
                            seenByPlaces.write(weightAt(s, p, q), eye.seenBetween(ceiling, s, p, q, 0));
                        }
                    }
                }
            }
        }

        /** What is seen ahead of each strip, if one isn't called away there, and if one is for n minutes. */
        void weighPauses(int n) {
            seenWithout.fill(ceiling.strips(), 0);
            seenWith.fill(ceiling.strips(), 0);
            for (int s = 1; s < ceiling.strips(); s++) {
                seenWithout.write(s, eye.seenBetween(ceiling, s - 1, s - 1, s, 0));
                seenWith.write(s, eye.seenBetween(ceiling, s - 1, s - 1, s, n));
            }
        }

        int seenCalledAhead(int s) {
            int sum = 0;
            for (int i = 1; i < ceiling.strips(); i++) {
                sum += i == s ? seenWith.at(i) : seenWithout.at(i);
            }
            return sum;
        }

        int worstStrip() {
            int worst = 1;
            for (int s = 2; s < ceiling.strips(); s++) {
                if (seenCalledAhead(s) > seenCalledAhead(worst)) {
                    worst = s;
                }
            }
            return worst;
        }

        int longestPause(int s, int most) {
            int without = eye.seenBetween(ceiling, s - 1, s - 1, s, 0);
            for (int n = most; n > 0; n--) {
                if (eye.seenBetween(ceiling, s - 1, s - 1, s, n) <= without) {
                    return n;
                }
            }
            return 0;
        }

        int waysOfPauses() {
            return 1 << (ceiling.strips() - 1);
        }

        int waysSeenAtMost(int v) {
            int ways = 0;
            for (int way = 0; way < waysOfPauses(); way++) {
                int sum = 0;
                for (int s = 1; s < ceiling.strips(); s++) {
                    sum += (way >> (s - 1) & 1) == 1 ? seenWith.at(s) : seenWithout.at(s);
                }
                if (sum <= v) {
                    ways++;
                }
            }
            return ways;
        }
    }

    /** What hands say: bodies by kinds, and which of them began. */
    static final class Voices {
        static final int ACTS = 4;

        private static final int LOADS = 0;
        private static final int ROLLS = 1;
        private static final int DRIES = 2;
        private static final int TELLS = 3;
        private static final int MOST_HEARD = 40;
        private static final int DEEPEST = 40;
        // By kinds, of each the body of every act; 0: it has none of its own.
        private static final int[] BODIES = {
            10, 11, 12, 13,
            0, 0, 20, 0,
            0, 30, 0, 0,
            40, 0, 0, 0,
            0, 0, 50, 51,
            0, 60, 0, 0,
            0, 0, 0, 70
        };

        private final Row heard = new Row(MOST_HEARD);
        private int number = 0;
        private int kind = 0;
        private int m = 0;

        Row heard() {
            return heard;
        }

        int speak(Crew crew, int hand, int act, int x) {
            heard.clear();
            number = hand;
            kind = crew.kindOf(hand);
            m = crew.numberOf(hand);
            return own(act, x, 0);
        }

        private int own(int act, int x, int depth) {
            return from(kind, act, x, depth);
        }

        /** The body of a kind, or of the next one above that has one. */
        private int from(int start, int act, int x, int depth) {
            if (depth > DEEPEST) {
                return 0;
            }
            int owner = start;
            for (int i = 0; i < Kinds.COUNT && bodyOf(owner, act) == 0; i++) {
                owner = Kinds.above(owner);
            }
            int body = bodyOf(owner, act);
            heard.add(body);
            return say(body, Kinds.above(owner), x, depth + 1);
        }

        private static int bodyOf(int kind, int act) {
            int i = kind * ACTS + act;
            return i >= 0 && i < BODIES.length ? BODIES[i] : 0;
        }

        private int say(int body, int above, int x, int depth) {
            switch (body) {
                case 10:
                    return x + number;
                case 11:
                    return own(LOADS, x, depth) * 2;
                case 12:
                    return x - m;
                case 13:
                    return own(ROLLS, x, depth) ^ own(DRIES, x, depth);
                case 20:
                    return -from(above, DRIES, x, depth);
                case 30:
                    return from(above, ROLLS, x, depth) - own(DRIES, 1, depth);
                case 40:
                    return from(above, LOADS, x, depth) * 3;
                case 50:
                    return from(above, DRIES, x, depth) ^ number;
                case 51:
                    return own(ROLLS, x, depth) - from(above, TELLS, x, depth);
                case 60:
                    return from(above, ROLLS, x + 1, depth);
                case 70:
                    return from(above, TELLS, x, depth) - own(LOADS, 2, depth);
                default:
                    return 0;
            }
        }
    }

    /** A row of numbers of 8, 16 or 32 bits, or missing (of none). */
    static final class Sheet {
        static final int MOST = 40;

        final Row numbers = new Row(MOST);
        private int bits = 0;

        static boolean isWidth(int bits) {
            return bits == 0 || bits == 8 || bits == 16 || bits == 32;
        }

        boolean isMissing() {
            return bits == 0;
        }

        int bits() {
            return bits;
        }

        void remove() {
            bits = 0;
            numbers.clear();
        }

        void renew(int newBits, int n) {
            bits = newBits;
            numbers.fill(n, 0);
        }

        void write(int i, int v) {
            numbers.write(i, bits == 8 ? (byte) v : bits == 16 ? (short) v : v);
        }
    }
}
