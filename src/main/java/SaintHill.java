/** The cheese that is rolled from the saint's hill once a year, and whoever it comes to rest against. */
public final class SaintHill {
    public static final int NONE = -1000000, BAD = -1000001, STATE = -1000002, FULL = -1000003;

    private static final int FOUND = -1000010, FAULTY = -1000100;
    private static final int NULL = 1, PLACE = 2, KIND = 3, SIZE = 4, STORE = 5;

    private static final int ROWS = 8, MOST_ITEMS = 40;
    private static final int MOST_TIERS = 9, LINES = 7, MOST_HOUSES = 6;
    private static final int MOST_BYTES = 100, MOST_ACTS = 24, MOST_TRACED = 16, IMAGES = 2;
    private static final int LAST_YEAR = 999, FARTHEST = 60, MOST_TOLD = 16, MOST_SITED = 20, LAST_SEED = 999999;

    private static final int DOOR = 1, POST = 2, MISER = 3, WALL = 4, PUMP = 5;
    /** The KIND that each KIND is, too; HOUSE itself is none but itself. */
    private static final int[] WIDER = {-1, 0, 1, 1, 0, 4};

    private final Row[] rows = new Row[ROWS];
    private final Tape tape = new Tape();
    private final Hill hill = new Hill();
    private final Hill draft = new Hill();
    private final Hill[] images = new Hill[IMAGES];
    private final Acts acts = new Acts();
    private final Seer seer = new Seer();
    private final Trace asked = new Trace();
    private int latestFault;
    private int finding;

    public SaintHill() {
        for (int i = 0; i < ROWS; i++) {
            rows[i] = new Row();
        }
        for (int i = 0; i < IMAGES; i++) {
            images[i] = new Hill();
        }
    }

    // ---- rows

    public int row(int row, int lane, int n) {
        if (!isRow(row) || !within(lane, 0, 2) || n > MOST_ITEMS) {
            return BAD;
        }
        if (n < 0) {
            return found(SIZE);
        }
        rows[row].begin(lane, n);
        return fine(n);
    }

    public int set(int row, int i, int v) {
        if (!isRow(row)) {
            return BAD;
        }
        Row r = rows[row];
        if (r.missing) {
            return found(NULL);
        }
        if (!r.reaches(i, 1)) {
            return found(PLACE);
        }
        r.items[i] = r.cut(v);
        return fine(r.items[i]);
    }

    public int copy(int a, int i, int b, int j, int n) {
        if (!isRow(a) || !isRow(b)) {
            return BAD;
        }
        Row from = rows[a];
        Row to = rows[b];
        if (from.missing || to.missing) {
            return found(NULL);
        }
        if (from.lane != to.lane) {
            return found(STORE);
        }
        if (!from.reaches(i, n) || !to.reaches(j, n)) {
            return found(PLACE);
        }
        System.arraycopy(from.items, i, to.items, j, n);
        return fine(n);
    }

    public int drop(int row) {
        if (!isRow(row)) {
            return BAD;
        }
        Row r = rows[row];
        if (r.missing) {
            return found(NULL);
        }
        r.missing = true;
        return fine(r.size);
    }

    // ---- hills, acts (sets of HOUSES told as bits)

    public int feed(int letter) {
        if (!within(letter, 0, 255)) {
            return BAD;
        }
        return tape.append(letter) ? tape.size : FULL;
    }

    public int hill() {
        boolean whole = tape.readInto(draft);
        tape.size = 0;
        if (!whole) {
            latestFault = tape.fault;
            return FAULTY - tape.place;
        }
        hill.become(draft);
        acts.kept = 0;
        return hill.count;
    }

    public int fault() {
        return latestFault;
    }

    public int years(int n) {
        if (!hill.told) {
            return STATE;
        }
        if (!within(n, 1, MOST_ACTS)) {
            return BAD;
        }
        if (hill.year + n > LAST_YEAR) {
            return FULL;
        }
        int rested = -1;
        for (int k = 0; k < n; k++) {
            rested = hill.passYear();
            acts.keep(Acts.YEAR, rested, 0);
        }
        return orNone(rested);
    }

    public int door(int house, int open) {
        if (!isHouse(house) || !within(open, 0, 1)) {
            return BAD;
        }
        if (hill.openness(house) == open) {
            return STATE;
        }
        hill.open ^= 1 << house;
        acts.keep(Acts.DOORS, house, 0);
        return hill.open;
    }

    public int build(int house, int tier, int line) {
        if (!isHouse(house) || !isCell(tier, line)) {
            return BAD;
        }
        if (hill.standing(tier, line) >= 0) {
            return STATE;
        }
        int stood = hill.houses[house].cell();
        hill.houses[house].stand(tier, line);
        acts.keep(Acts.BUILT, house, stood);
        return stood;
    }

    public int speed(int v) {
        if (!hill.told) {
            return STATE;
        }
        if (!within(v, 1, 9)) {
            return BAD;
        }
        int was = hill.speed;
        hill.speed = v;
        acts.keep(Acts.SPEEDS, -1, was);
        return was;
    }

    public int undo() {
        if (acts.kept < 1) {
            return STATE;
        }
        acts.takeBackLatest(hill);
        return acts.kept;
    }

    public int house(int house, int what) {
        if (!isHouse(house)) {
            return BAD;
        }
        House h = hill.houses[house];
        switch (what) {
            case 0:
                return h.tier;
            case 1:
                return h.line;
            case 2:
                return h.wants;
            case 3:
                return hill.openness(house);
            case 4:
                return h.got;
            default:
                return BAD;
        }
    }

    public int at(int tier, int line) {
        return isCell(tier, line) ? orNone(hill.standing(tier, line)) : BAD;
    }

    // ---- foretold

    public int rests(int d) {
        if (!hill.told) {
            return STATE;
        }
        return within(d, 0, FARTHEST) ? orNone(hill.restIn(d)) : BAD;
    }

    public int line(int tier, int d) {
        if (!hill.told) {
            return STATE;
        }
        if (!within(tier, 0, hill.tiers) || !within(d, 0, FARTHEST)) {
            return BAD;
        }
        hill.restIn(d);
        return tier <= hill.roll.reached ? hill.roll.lines[tier] : NONE;
    }

    public int left(int d) {
        if (!hill.told) {
            return STATE;
        }
        if (!within(d, 0, FARTHEST)) {
            return BAD;
        }
        hill.restIn(d);
        return Math.max(0, hill.roll.speed);
    }

    public int next(int house) {
        if (!isHouse(house)) {
            return BAD;
        }
        return orNone(hill.firstAt(house));
    }

    public int often(int house, int n) {
        if (!isHouse(house) || !within(n, 1, FARTHEST)) {
            return BAD;
        }
        return hill.timesAt(house, n);
    }

    public int aim(int house, int d, int what) {
        if (!isHouse(house) || !within(d, 0, FARTHEST) || !within(what, 0, 1)) {
            return BAD;
        }
        return sizeOrSet(seer.fewestDoors(hill, d, 1 << house), what);
    }

    public int shun(int houses, int d, int what) {
        if (!hill.told) {
            return STATE;
        }
        if (!within(houses, 0, hill.allHouses()) || !within(d, 0, FARTHEST) || !within(what, 0, 1)) {
            return BAD;
        }
        return sizeOrSet(seer.fewestDoors(hill, d, ~houses), what);
    }

    public int site(int house, int n, int what) {
        if (!isHouse(house) || !within(n, 1, MOST_SITED) || !within(what, 0, 2)) {
            return BAD;
        }
        int cell = seer.bestCell(hill, house, n);
        if (what == 2) {
            return seer.bestTimes;
        }
        return what == 0 ? cell / 10 : cell % 10;
    }

    public int sulks() {
        return hill.told ? seer.sulkersNow(hill) : STATE;
    }

    public int peace(int what) {
        if (!hill.told) {
            return STATE;
        }
        if (!within(what, 0, 1)) {
            return BAD;
        }
        int turns = seer.turnsToPeace(hill);
        if (turns < 0) {
            return NONE;
        }
        return what == 0 ? turns : seer.trial.open;
    }

    public int rolls(int row, int i, int n, int what) {
        if (!hill.told) {
            return STATE;
        }
        if (!isRow(row) || !within(n, 1, MOST_TOLD) || !within(what, 0, 3)) {
            return BAD;
        }
        Row r = rows[row];
        if (r.missing) {
            return found(NULL);
        }
        if (!r.reaches(i, n)) {
            return found(PLACE);
        }
        return fine(seer.lawsThatFit(hill, what, r, i, n));
    }

    public int sorts(int house, int row, int i, int n) {
        if (!isHouse(house) || !isRow(row) || !within(n, 1, MOST_TOLD)) {
            return BAD;
        }
        Row r = rows[row];
        if (r.missing) {
            return found(NULL);
        }
        if (!r.reaches(i, n)) {
            return found(PLACE);
        }
        return fine(seer.kindsThatFit(hill, house, r, i, n));
    }

    public int play(int house, int c, int what) {
        if (!isHouse(house) || !within(c, 0, 10) || !within(what, 0, 1)) {
            return BAD;
        }
        int above = seer.playedWays(hill, house, c);
        int below = power(10, hill.count);
        int common = Math.max(1, commonDivisor(above, below));
        return (what == 0 ? above : below) / common;
    }

    public int drawn(int n, int seed, int what) {
        if (!hill.told) {
            return STATE;
        }
        if (!within(n, 0, FARTHEST) || !within(seed, 1, LAST_SEED) || !within(what, 0, 1)) {
            return BAD;
        }
        seer.drawCentury(hill, n, seed);
        return what == 0 ? seer.trial.allGot() : orNone(seer.trial.mostFavoured());
    }

    public int image(int k) {
        if (!within(k, 0, IMAGES - 1)) {
            return BAD;
        }
        if (!hill.told) {
            return STATE;
        }
        images[k].become(hill);
        return 1;
    }

    public int restore(int k) {
        if (!within(k, 0, IMAGES - 1)) {
            return BAD;
        }
        if (!images[k].told) {
            return STATE;
        }
        hill.become(images[k]);
        acts.kept = 0;
        return 1;
    }

    // ---- asked

    public int kind(int house) {
        return isHouse(house) ? hill.houses[house].kind : BAD;
    }

    public int as(int house, int kind) {
        if (!isHouse(house) || !within(kind, 0, PUMP)) {
            return BAD;
        }
        return isOfKind(hill.houses[house].kind, kind) ? fine(house) : found(KIND);
    }

    public int ask(int house, int what) {
        if (!isHouse(house) || !within(what, 0, 1)) {
            return BAD;
        }
        asked.size = 0;
        return Trace.answer(asked, hill.houses[house], house, what);
    }

    public int trace(int i) {
        return within(i, 0, asked.size - 1) ? asked.bodies[i] : NONE;
    }

    public int count(int what) {
        switch (what) {
            case 0:
                return rowsThere();
            case 1:
                return hill.tiers;
            case 2:
                return hill.count;
            case 3:
                return hill.year;
            case 4:
                return hill.open;
            case 5:
                return hill.topLine(0);
            case 6:
                return acts.kept;
            case 7:
                return tape.size;
            case 8:
                return hill.speed;
            case 9:
                return hill.allGot();
            default:
                return BAD;
        }
    }

    public int status() {
        return finding;
    }

    // ---- what the calls share

    private int found(int number) {
        finding = number;
        return FOUND - number;
    }

    private int fine(int answer) {
        finding = 0;
        return answer;
    }

    private boolean isHouse(int house) {
        return within(house, 0, hill.count - 1);
    }

    private boolean isCell(int tier, int line) {
        return within(tier, 1, hill.tiers) && within(line, 0, LINES - 1);
    }

    private int rowsThere() {
        int there = 0;
        for (Row r : rows) {
            if (!r.missing) {
                there++;
            }
        }
        return there;
    }

    private static boolean isRow(int row) {
        return within(row, 0, ROWS - 1);
    }

    private static boolean within(int number, int least, int most) {
        return number >= least && number <= most;
    }

    private static int orNone(int number) {
        return number < 0 ? NONE : number;
    }

    private static int sizeOrSet(int set, int what) {
        if (set < 0) {
            return NONE;
        }
        return what == 0 ? Integer.bitCount(set) : set;
    }

    private static boolean isOfKind(int own, int wanted) {
        int kind = own;
        for (int step = 0; step < WIDER.length && within(kind, 0, PUMP); step++) {
            if (kind == wanted) {
                return true;
            }
            kind = WIDER[kind];
        }
        return false;
    }

    private static int power(int base, int exponent) {
        int result = 1;
        for (int k = 0; k < exponent; k++) {
            result *= base;
        }
        return result;
    }

    private static int commonDivisor(int a, int b) {
        int greater = a;
        int lesser = b;
        // Euclid's steps on ints are fewer than 64.
        for (int step = 0; step < 64 && lesser != 0; step++) {
            int rest = greater % lesser;
            greater = lesser;
            lesser = rest;
        }
        return greater;
    }

    /** A ROW; its ITEMS are made once, so that ROWS begun over and over take no more room. */
    private static final class Row {
        private final int[] items = new int[MOST_ITEMS];
        private boolean missing = true;
        private int lane;
        private int size;

        void begin(int newLane, int n) {
            missing = false;
            lane = newLane;
            size = n;
            for (int i = 0; i < MOST_ITEMS; i++) {
                items[i] = 0;
            }
        }

        /** Whether n ITEMS from i on lie within; i + n could wrap around, so n is taken from the size. */
        boolean reaches(int i, int n) {
            return i >= 0 && n >= 0 && n <= size && i <= size - n;
        }

        int cut(int v) {
            if (lane == 0) {
                return (byte) v;
            }
            return lane == 1 ? (short) v : v;
        }
    }

    private static final class House {
        private int kind;
        private int tier;
        private int line;
        private int wants;
        private int got;

        void become(House other) {
            kind = other.kind;
            tier = other.tier;
            line = other.line;
            wants = other.wants;
            got = other.got;
        }

        void stand(int newTier, int newLine) {
            tier = newTier;
            line = newLine;
        }

        int cell() {
            return 10 * tier + line;
        }
    }

    /** One way down: where it is, how fast, and by which LINES it came. */
    private static final class Roll {
        private final int[] lines = new int[MOST_TIERS + 1];
        private int reached;
        private int line;
        private int speed;
        private int house;
        private boolean resting;

        void begin(int top, int fast) {
            line = top;
            speed = fast;
            house = -1;
            resting = false;
            reach(0);
        }

        void reach(int tier) {
            if (!within(tier, 0, MOST_TIERS)) {
                return;
            }
            reached = tier;
            lines[tier] = line;
        }

        void turn(int by) {
            line = Math.max(0, Math.min(LINES - 1, line + by));
        }

        void restAt(int where) {
            house = where;
            resting = true;
        }
    }

    private static final class Hill {
        /** The bounds of a law's NUMBERS, in the order in which a text tells them. */
        private static final int[] LEAST = {2, 0, 0, 1, 0, 1};
        private static final int[] MOST = {9, 6, 6, 9, 2, 9};

        private final House[] houses = new House[MOST_HOUSES];
        private final Roll roll = new Roll();
        private boolean told;
        private int tiers;
        private int start;
        private int drift;
        private int speed;
        private int tend;
        private int every;
        private int year;
        private int count;
        private int open;

        Hill() {
            for (int i = 0; i < MOST_HOUSES; i++) {
                houses[i] = new House();
            }
        }

        void become(Hill other) {
            told = other.told;
            tiers = other.tiers;
            start = other.start;
            drift = other.drift;
            speed = other.speed;
            tend = other.tend;
            every = other.every;
            year = other.year;
            count = other.count;
            open = other.open;
            for (int i = 0; i < MOST_HOUSES; i++) {
                houses[i].become(other.houses[i]);
            }
        }

        void clear() {
            told = false;
            year = 0;
            count = 0;
            open = 0;
        }

        /** The numbers of a law in the order in which a text tells them. */
        void putLaw(int place, int value) {
            switch (place) {
                case 0:
                    tiers = value;
                    break;
                case 1:
                    start = value;
                    break;
                case 2:
                    drift = value;
                    break;
                case 3:
                    speed = value;
                    break;
                case 4:
                    tend = value;
                    break;
                default:
                    every = value;
                    break;
            }
        }

        void addHouse(int kind, int tier, int line, int wants) {
            if (count >= MOST_HOUSES) {
                return;
            }
            House h = houses[count];
            h.kind = kind;
            h.stand(tier, line);
            h.wants = wants;
            h.got = 0;
            open |= 1 << count;
            count++;
        }

        int allHouses() {
            return (1 << count) - 1;
        }

        int openness(int house) {
            return open >> house & 1;
        }

        int standing(int tier, int line) {
            for (int i = 0; i < count; i++) {
                if (houses[i].tier == tier && houses[i].line == line) {
                    return i;
                }
            }
            return -1;
        }

        int topLine(int d) {
            return (start + drift * (year + d)) % LINES;
        }

        /** The HOUSE at which it RESTS d YEARS from now, -1 on the FLAT; the roll tells the way. */
        int restIn(int d) {
            return letGo(topLine(d));
        }

        int letGo(int top) {
            roll.begin(top, speed);
            for (int tier = 1; tier <= tiers && !roll.resting; tier++) {
                if (every > 0 && tier % every == 0) {
                    roll.turn(tend - 1);
                }
                int house = standing(tier, roll.line);
                if (house >= 0) {
                    meet(house, tier);
                }
                roll.reach(tier);
            }
            return roll.house;
        }

        private void meet(int house, int tier) {
            int kind = houses[house].kind;
            boolean shut = openness(house) == 0;
            if (kind == WALL || kind == PUMP) {
                roll.speed -= 1;
                roll.turn(kind == WALL ? -1 : 1);
            } else if (kind == MISER || kind == DOOR && !shut) {
                roll.restAt(house);
            } else if (shut) {
                roll.speed -= 2;
                roll.turn(tier % 2 == 0 ? 1 : -1);
            } else {
                roll.speed -= 1;
            }
            if (roll.speed <= 0) {
                roll.restAt(house);
            }
        }

        /** It is let go from the same LINES over again each LINES YEARS, so those tell of all to come. */
        int firstAt(int house) {
            for (int d = 0; d < LINES; d++) {
                if (restIn(d) == house) {
                    return d;
                }
            }
            return -1;
        }

        int timesAt(int house, int n) {
            int times = 0;
            for (int d = 0; d < LINES && d < n; d++) {
                if (restIn(d) == house) {
                    times += (n - 1 - d) / LINES + 1;
                }
            }
            return times;
        }

        int passYear() {
            int rested = restIn(0);
            year++;
            if (rested >= 0) {
                houses[rested].got++;
            }
            return rested;
        }

        void forgetGot() {
            for (int i = 0; i < count; i++) {
                houses[i].got = 0;
            }
        }

        int allGot() {
            int all = 0;
            for (int i = 0; i < count; i++) {
                all += houses[i].got;
            }
            return all;
        }

        /** Who GOT it most often, of several the least; -1 if nobody did. */
        int mostFavoured() {
            int most = 0;
            int who = -1;
            for (int i = 0; i < count; i++) {
                if (houses[i].got > most) {
                    most = houses[i].got;
                    who = i;
                }
            }
            return who;
        }
    }

    /** The bytes of a text, and the HILL that they tell. */
    private static final class Tape {
        private static final int MISPLACED = 1, UNTOLD_NUMBER = 2, NO_ROOM = 3;

        private final int[] bytes = new int[MOST_BYTES];
        private int size;
        private int at;
        private int fault;
        private int place;

        boolean append(int letter) {
            if (size >= MOST_BYTES) {
                return false;
            }
            bytes[size] = letter;
            size++;
            return true;
        }

        /** Whether all of the tape is a HILL; if not, fault and place tell why not, and the HILL is half made. */
        boolean readInto(Hill into) {
            at = 0;
            fault = 0;
            place = 0;
            into.clear();
            boolean good = readLaw(into);
            // A house takes seven bytes at least, so the tape's room bounds how many there can be.
            for (int k = 0; k < MOST_BYTES && good && at < size; k++) {
                good = readHouse(into);
            }
            into.told = good;
            return good;
        }

        private boolean readLaw(Hill into) {
            boolean good = readSign('c');
            for (int k = 0; k < Hill.LEAST.length && good; k++) {
                int value = readNumber(Hill.LEAST[k], Hill.MOST[k]);
                into.putLaw(k, value);
                good = value >= 0 && readSign(k < Hill.LEAST.length - 1 ? ',' : ';');
            }
            return good;
        }

        private boolean readHouse(Hill into) {
            int kind = kindOf(peek(at));
            if (kind == 0) {
                return fail(MISPLACED, at);
            }
            if (into.count >= MOST_HOUSES) {
                return fail(NO_ROOM, at);
            }
            at++;
            int tier = readNumber(1, into.tiers);
            if (tier < 0 || !readSign(',')) {
                return false;
            }
            int lineAt = at;
            int line = readNumber(0, LINES - 1);
            if (line < 0) {
                return false;
            }
            if (into.standing(tier, line) >= 0) {
                return fail(UNTOLD_NUMBER, lineAt);
            }
            if (!readSign(',')) {
                return false;
            }
            int wants = readNumber(0, 1);
            if (wants < 0 || !readSign(';')) {
                return false;
            }
            into.addHouse(kind, tier, line, wants);
            return true;
        }

        private boolean readSign(int sign) {
            if (peek(at) != sign) {
                return fail(MISPLACED, at);
            }
            at++;
            return true;
        }

        /** A NUMBER from least to most, or -1 if there is none. */
        private int readNumber(int least, int most) {
            int figures = 0;
            int value = 0;
            while (figures < 3 && within(peek(at + figures), '0', '9')) {
                value = 10 * value + peek(at + figures) - '0';
                figures++;
            }
            if (figures < 1 || figures > 2) {
                fail(MISPLACED, at);
                return -1;
            }
            if (!within(value, least, most)) {
                fail(UNTOLD_NUMBER, at);
                return -1;
            }
            at += figures;
            return value;
        }

        private int peek(int where) {
            return within(where, 0, size - 1) && where < MOST_BYTES ? bytes[where] : -1;
        }

        private boolean fail(int number, int where) {
            fault = number;
            place = where;
            return false;
        }

        private static int kindOf(int letter) {
            switch (letter) {
                case 'd':
                    return DOOR;
                case 'p':
                    return POST;
                case 'm':
                    return MISER;
                case 'w':
                    return WALL;
                case 'u':
                    return PUMP;
                default:
                    return 0;
            }
        }
    }

    /** The latest ACTS, each with what it takes to undo it. */
    private static final class Acts {
        private static final int YEAR = 0, DOORS = 1, BUILT = 2, SPEEDS = 3;

        private final int[] sorts = new int[MOST_ACTS];
        private final int[] houses = new int[MOST_ACTS];
        private final int[] before = new int[MOST_ACTS];
        private int kept;

        void keep(int sort, int house, int was) {
            if (kept >= MOST_ACTS) {
                forgetOldest();
            }
            sorts[kept] = sort;
            houses[kept] = house;
            before[kept] = was;
            kept++;
        }

        private void forgetOldest() {
            kept = MOST_ACTS - 1;
            System.arraycopy(sorts, 1, sorts, 0, kept);
            System.arraycopy(houses, 1, houses, 0, kept);
            System.arraycopy(before, 1, before, 0, kept);
        }

        void takeBackLatest(Hill hill) {
            if (kept < 1) {
                return;
            }
            kept--;
            int house = houses[kept];
            boolean there = within(house, 0, hill.count - 1);
            if (sorts[kept] == YEAR) {
                hill.year--;
                if (there) {
                    hill.houses[house].got--;
                }
            } else if (sorts[kept] == SPEEDS) {
                hill.speed = before[kept];
            } else if (sorts[kept] == DOORS && there) {
                hill.open ^= 1 << house;
            } else if (there) {
                hill.houses[house].stand(before[kept] / 10, before[kept] % 10);
            }
        }
    }

    /** Foretells on a trial HILL, so that the real one never changes. */
    private static final class Seer {
        private static final int MOST_TURNS = 40, FLAT = 6;
        private static final long FACTOR = 16807L, MODULUS = 2147483647L;
        /** START, DRIFT, SPEED, TEND stand behind one another among a law's NUMBERS, from here on. */
        private static final int START_PLACE = 1;

        private final Hill trial = new Hill();
        private int bestTimes;

        /** The least set of the fewest HOUSES made otherwise so that it RESTS at one of the good ones; -1. */
        int fewestDoors(Hill now, int d, int good) {
            trial.become(now);
            int best = -1;
            for (int set = 0; set <= now.allHouses(); set++) {
                if (best >= 0 && Integer.bitCount(set) >= Integer.bitCount(best)) {
                    continue;
                }
                trial.open = now.open ^ set;
                int rested = trial.restIn(d);
                int place = rested < 0 ? FLAT : rested;
                if ((good >> place & 1) == 1) {
                    best = set;
                }
            }
            return best;
        }

        /** Where a HOUSE would have it most often, 10 times the TIER and the LINE; bestTimes tells how often. */
        int bestCell(Hill now, int house, int n) {
            trial.become(now);
            int best = now.houses[house].cell();
            bestTimes = -1;
            for (int tier = 1; tier <= now.tiers; tier++) {
                for (int line = 0; line < LINES; line++) {
                    int there = now.standing(tier, line);
                    if (there >= 0 && there != house) {
                        continue;
                    }
                    trial.houses[house].stand(tier, line);
                    int times = trial.timesAt(house, n);
                    if (times > bestTimes) {
                        bestTimes = times;
                        best = 10 * tier + line;
                    }
                }
            }
            return best;
        }

        int sulkersNow(Hill now) {
            trial.become(now);
            return sulkers();
        }

        private int sulkers() {
            int open = trial.open;
            int rested = trial.restIn(0);
            int sulking = 0;
            for (int i = 0; i < trial.count; i++) {
                trial.open = open ^ 1 << i;
                boolean has = rested == i;
                boolean would = trial.restIn(0) == i;
                boolean wants = trial.houses[i].wants == 1;
                if (has != would && would == wants) {
                    sulking |= 1 << i;
                }
            }
            trial.open = open;
            return sulking;
        }

        /** How often somebody's door is made otherwise till nobody sulks, -1 if too often; the trial HILL is as it ends. */
        int turnsToPeace(Hill now) {
            trial.become(now);
            for (int turns = 0; turns <= MOST_TURNS; turns++) {
                int sulking = sulkers();
                if (sulking == 0) {
                    return turns;
                }
                trial.open ^= Integer.lowestOneBit(sulking);
            }
            return -1;
        }

        int lawsThatFit(Hill now, int what, Row row, int from, int n) {
            trial.become(now);
            int fitting = 0;
            int place = START_PLACE + what;
            if (!within(place, 0, Hill.LEAST.length - 1)) {
                return fitting;
            }
            for (int value = Hill.LEAST[place]; value <= Hill.MOST[place]; value++) {
                trial.putLaw(place, value);
                if (fits(row, from, n)) {
                    fitting |= 1 << value;
                }
            }
            return fitting;
        }

        int kindsThatFit(Hill now, int house, Row row, int from, int n) {
            trial.become(now);
            int fitting = 0;
            for (int kind = DOOR; kind <= PUMP; kind++) {
                trial.houses[house].kind = kind;
                if (fits(row, from, n)) {
                    fitting |= 1 << kind;
                }
            }
            return fitting;
        }

        private boolean fits(Row row, int from, int n) {
            for (int k = 0; k < n; k++) {
                if (trial.restIn(k) != row.items[from + k]) {
                    return false;
                }
            }
            return true;
        }

        /** In how many of 10 to the HOUSES equal cases it RESTS at a HOUSE this YEAR. */
        int playedWays(Hill now, int house, int c) {
            trial.become(now);
            int ways = 0;
            for (int set = 0; set <= now.allHouses(); set++) {
                trial.open = now.open ^ set;
                if (trial.restIn(0) == house) {
                    int turned = Integer.bitCount(set);
                    ways += power(c, turned) * power(10 - c, now.count - turned);
                }
            }
            return ways;
        }

        /** Leaves the trial HILL as it is behind the century; who GOT it there is of the century alone. */
        void drawCentury(Hill now, int n, int seed) {
            trial.become(now);
            trial.forgetGot();
            long x = seed;
            for (int k = 0; k < n; k++) {
                x = x * FACTOR % MODULUS;
                if (trial.count > 0 && x % 3 == 0) {
                    trial.open ^= 1 << (int) (x % trial.count);
                }
                int rested = trial.letGo((int) (x % LINES));
                if (rested >= 0) {
                    trial.houses[rested].got++;
                }
            }
        }
    }

    /** The numbers of the BODIES that began for the latest ask. */
    private static final class Trace {
        private static final int DEEPEST = 16;
        /** The BODY that begins for each KIND: its own, else that of the nearest KIND that it is, too. */
        private static final int[] SIZE_BODY = {10, 11, 12, 11, 13, 14};
        private static final int[] MARK_BODY = {20, 21, 24, 22, 23, 23};

        private final int[] bodies = new int[MOST_TRACED];
        private int size;

        private void leave(int body) {
            if (size < MOST_TRACED) {
                bodies[size] = body;
                size++;
            }
        }

        static int answer(Trace trace, House h, int number, int what) {
            return give(trace, h, number, bodyFor(h, what), 0);
        }

        private static int bodyFor(House h, int what) {
            int kind = within(h.kind, 0, PUMP) ? h.kind : 0;
            return what == 0 ? SIZE_BODY[kind] : MARK_BODY[kind];
        }

        private static int give(Trace trace, House h, int number, int body, int depth) {
            if (depth > DEEPEST) {
                return 0;
            }
            trace.leave(body);
            int deeper = depth + 1;
            switch (body) {
                case 10:
                    return h.tier;
                case 11:
                    return give(trace, h, number, 10, deeper) + give(trace, h, number, bodyFor(h, 1), deeper);
                case 12:
                    return -give(trace, h, number, 11, deeper);
                case 13:
                    return give(trace, h, number, 10, deeper) - 100;
                case 14:
                    return 2 * give(trace, h, number, 13, deeper);
                case 20:
                    return number;
                case 21:
                    return give(trace, h, number, 20, deeper) + h.got;
                case 22:
                    return give(trace, h, number, 21, deeper) - 1000;
                case 23:
                    return give(trace, h, number, 20, deeper) - give(trace, h, number, bodyFor(h, 0), deeper);
                case 24:
                    return 2 * give(trace, h, number, 21, deeper);
                default:
                    return 0;
            }
        }
    }
}
