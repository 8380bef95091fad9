import java.util.Arrays;

/** News that goes from port to port, by slow signals and by faster ships. */
public final class NewsShips {
    public static final int NONE = -1000000, BAD = -1000001, STATE = -1000002, FULL = -1000003;

    // A FINDING is answered as FOUND less its number, a FAULT as FAULTY less its place.
    private static final int FOUND = -1000010;
    private static final int FAULTY = -1000100;
    private static final int NULL = 1, PLACE = 2, KIND = 3, SIZE = 4, STORE = 5;

    private static final int MOST_ROWS = 8, MOST_ITEMS = 40;
    private static final int BYTES = 0, SHORTS = 1, INTS = 2, MISSING = -1;

    private static final int MOST_BYTES = 120, MOST_FIGURES = 2;
    private static final int MISPLACED = 1, WRONG_NUMBER = 2, NO_ROOM = 3;
    // Every byte but a figure tells itself (one that is no token can stand nowhere), so the
    // others have numbers above all bytes.
    private static final int NUMBER = 256, END = 257, NO_TOKEN = 258;

    private static final int LEAST_PORTS = 2, MOST_PORTS = 6, MOST_WAYS = 8, MOST_DAYS_OF_WAY = 9;
    private static final int MOST_SHIPS = 4, MOST_NEWS = 4, MOST_ACTS = 24, MOST_IMAGES = 2;
    private static final int MOST_DAYS_AT_ONCE = 20, LAST_DAY = 99;
    private static final int FIRST_PENCE = 10;

    private static final int SHIP = 0, TRADER = 1, CUTTER = 2, BARGE = 3, COURIER = 4, GHOST = 5;
    private static final int SIGNAL = 6;

    // Days are foretold till these.
    private static final int HORIZON = 150, SURE_HORIZON = 999;
    // Behind every day that can be foretold; adding days to it can't overflow.
    private static final int FAR = 1000000;
    private static final int MOST_FAME_DAYS = 30, MOST_LEVELS = 3, MOST_PAIRS = 6, MOST_LOSS = 10;
    private static final int MOST_ORDERS = 12, IF_KNOWN = 10, WAIT = 20;

    private static final int MOST_STEPS = 16;

    private final Rows rows;
    private final Tape tape;
    private final Reader reader;
    private final League league;
    private final Acts acts;
    private final League[] images;
    private final Foretold foretold;
    private final Renown renown;
    private final Voyage voyage;
    private final Asks asks;
    private int latestFault;
    private int finding;

    public NewsShips() {
        rows = new Rows();
        tape = new Tape();
        reader = new Reader(tape);
        league = new League();
        acts = new Acts();
        images = new League[MOST_IMAGES];
        for (int k = 0; k < MOST_IMAGES; k++) {
            images[k] = new League();
        }
        foretold = new Foretold(league);
        renown = new Renown(league, foretold);
        voyage = new Voyage(league);
        asks = new Asks(league);
    }

    // ---- rows

    public int row(int row, int lane, int n) {
        if (!isRow(row) || !within(lane, BYTES, INTS) || n > MOST_ITEMS) {
            return BAD;
        }
        if (n < 0) {
            return found(SIZE);
        }
        rows.lay(row, lane, n);
        return fine(n);
    }

    public int set(int row, int i, int v) {
        if (!isRow(row)) {
            return BAD;
        }
        int wrong = rows.findingAt(row, i, 1);
        if (wrong != 0) {
            return found(wrong);
        }
        return fine(rows.put(row, i, v));
    }

    public int copy(int a, int i, int b, int j, int n) {
        if (!isRow(a) || !isRow(b)) {
            return BAD;
        }
        int wrong = rows.findingOfMove(a, i, b, j, n);
        if (wrong != 0) {
            return found(wrong);
        }
        System.arraycopy(rows.items[a], i, rows.items[b], j, n);
        return fine(n);
    }

    public int drop(int row) {
        if (!isRow(row)) {
            return BAD;
        }
        if (rows.isMissing(row)) {
            return found(NULL);
        }
        rows.lanes[row] = MISSING;
        return fine(rows.sizes[row]);
    }

    // ---- leagues, acts

    public int feed(int letter) {
        if (!within(letter, 0, 255)) {
            return BAD;
        }
        if (tape.size >= MOST_BYTES) {
            return FULL;
        }
        tape.bytes[tape.size] = letter;
        tape.size++;
        return tape.size;
    }

    public int league() {
        boolean read = reader.readWhole();
        tape.size = 0;
        if (!read) {
            latestFault = reader.fault;
            return FAULTY - tape.start;
        }
        league.become(reader.draft);
        acts.forget();
        return league.ports;
    }

    public int fault() {
        return latestFault;
    }

    public int happen(int port) {
        if (!league.isPort(port)) {
            return BAD;
        }
        if (league.newsCount >= MOST_NEWS) {
            return FULL;
        }
        acts.keep(league);
        return league.begin(port);
    }

    public int sail(int ship, int way) {
        if (!league.isShip(ship) || !league.isWay(way)) {
            return BAD;
        }
        if (!league.canLeave(ship, way)) {
            return STATE;
        }
        acts.keep(league);
        league.leave(ship, way);
        return league.due[ship];
    }

    public int days(int n) {
        if (league.isNone()) {
            return STATE;
        }
        if (!within(n, 1, MOST_DAYS_AT_ONCE)) {
            return BAD;
        }
        if (league.day + n > LAST_DAY) {
            return FULL;
        }
        int times = 0;
        for (int i = 0; i < n; i++) {
            acts.keep(league);
            times += league.passDay();
        }
        return times;
    }

    public int undo() {
        if (acts.size == 0) {
            return STATE;
        }
        acts.giveBack(league);
        return acts.size;
    }

    public int ship(int ship, int what) {
        if (!league.isShip(ship)) {
            return BAD;
        }
        switch (what) {
            case 0: return league.berth[ship];
            case 1: return Math.max(0, league.due[ship] - league.day);
            case 2: return league.pence[ship];
            case 3: return league.told[ship];
            default: return BAD;
        }
    }

    public int port(int port, int what) {
        if (!league.isPort(port)) {
            return BAD;
        }
        switch (what) {
            case 0: return league.newsIn(port);
            case 1: return league.shipsIn(port);
            default: return BAD;
        }
    }

    public int news(int news, int what) {
        if (!league.isNews(news)) {
            return BAD;
        }
        switch (what) {
            case 0: return league.begun[news];
            case 1: return league.origin[news];
            default: return BAD;
        }
    }

    public int knows(int port, int news) {
        if (!league.isPort(port) || !league.isNews(news)) {
            return BAD;
        }
        return league.knownSince(port, news);
    }

    public int takes(int ship, int way) {
        if (!league.isShip(ship) || !league.isWay(way)) {
            return BAD;
        }
        return league.daysOn(way, league.kinds[ship]);
    }

    // ---- foretold

    public int ahead(int port, int news) {
        if (!league.isPort(port) || !league.isNews(news)) {
            return BAD;
        }
        foretold.foretell(news, 0);
        return tillHorizon(foretold.since[port]);
    }

    public int carried(int ship, int port, int news) {
        if (!league.isShip(ship) || !league.isPort(port) || !league.isNews(news)) {
            return BAD;
        }
        return tillHorizon(foretold.dayCarried(ship, port, news));
    }

    public int fame(int ship, int news, int d, int what) {
        if (!league.isShip(ship) || !league.isNews(news)) {
            return BAD;
        }
        if (!within(d, 0, MOST_FAME_DAYS) || !within(what, 0, 1)) {
            return BAD;
        }
        renown.seek(ship, news, d);
        return what == 0 ? renown.mostPorts : renown.fewestDays;
    }

    public int overtaken(int ship, int port, int news) {
        if (!league.isShip(ship) || !league.isPort(port) || !league.isNews(news)) {
            return BAD;
        }
        return foretold.daysAhead(ship, port, news);
    }

    public int sure(int news, int k) {
        if (!league.isNews(news) || !within(k, 0, MOST_LEVELS)) {
            return BAD;
        }
        return foretold.dayAllSure(news, k);
    }

    public int began(int row, int i, int n) {
        if (league.isNone()) {
            return STATE;
        }
        if (!isRow(row) || !within(n, 0, MOST_PAIRS)) {
            return BAD;
        }
        int wrong = rows.findingAt(row, i, 2 * n);
        if (wrong != 0) {
            return found(wrong);
        }
        if (!arePairs(rows.items[row], i, n)) {
            return BAD;
        }
        return fine(foretold.origins(rows.items[row], i, n));
    }

    public int odds(int port, int news, int day, int c, int what) {
        if (!league.isPort(port) || !league.isNews(news)) {
            return BAD;
        }
        if (!within(day, league.day, HORIZON) || !within(c, 0, MOST_LOSS) || !within(what, 0, 1)) {
            return BAD;
        }
        int above = foretold.weightInTime(port, news, day, c);
        int below = foretold.weightOfAll();
        int common = commonDivisor(above, below);
        if (common == 0) {
            return BAD;
        }
        return (what == 0 ? above : below) / common;
    }

    public int followed(int ship, int row, int i, int n, int what) {
        if (!league.isShip(ship) || !isRow(row)) {
            return BAD;
        }
        if (!within(n, 0, MOST_ORDERS) || !within(what, 0, 2)) {
            return BAD;
        }
        int wrong = rows.findingAt(row, i, n);
        if (wrong != 0) {
            return found(wrong);
        }
        if (!areOrders(rows.items[row], i, n)) {
            return BAD;
        }
        voyage.follow(ship, rows.items[row], i, n);
        return fine(voyage.outcome(ship, what));
    }

    public int image(int k) {
        if (!within(k, 0, MOST_IMAGES - 1)) {
            return BAD;
        }
        if (league.isNone()) {
            return STATE;
        }
        images[k].become(league);
        return 1;
    }

    public int restore(int k) {
        if (!within(k, 0, MOST_IMAGES - 1)) {
            return BAD;
        }
        if (images[k].isNone()) {
            return STATE;
        }
        league.become(images[k]);
        acts.forget();
        return 1;
    }

    // ---- asked

    public int kind(int ship) {
        return league.isShip(ship) ? league.kinds[ship] : BAD;
    }

    public int as(int ship, int kind) {
        if (!league.isShip(ship) || !within(kind, SHIP, GHOST)) {
            return BAD;
        }
        return isKind(league.kinds[ship], kind) ? fine(ship) : found(KIND);
    }

    public int ask(int ship, int what) {
        if (!league.isShip(ship) || !within(what, 0, 1)) {
            return BAD;
        }
        asks.steps = 0;
        return what == 0 ? asks.sizeOf(ship) : asks.markOf(ship);
    }

    public int trace(int i) {
        return i >= 0 && i < asks.steps ? asks.bodies[i] : NONE;
    }

    public int count(int what) {
        switch (what) {
            case 0: return rows.present();
            case 1: return league.ports;
            case 2: return league.ways;
            case 3: return league.ships;
            case 4: return league.day;
            case 5: return league.newsCount;
            case 6: return Integer.bitCount(league.shipsAtSea());
            case 7: return acts.size;
            case 8: return tape.size;
            default: return BAD;
        }
    }

    public int status() {
        return finding;
    }

    // ---- what the calls share

    private int found(int number) {
        finding = number;
        return FOUND - number;
    }

    private int fine(int answer) {
        finding = 0;
        return answer;
    }

    private boolean arePairs(int[] items, int i, int n) {
        for (int k = i; k < i + 2 * n; k += 2) {
            if (!league.isPort(items[k]) || !within(items[k + 1], 0, LAST_DAY)) {
                return false;
            }
        }
        return true;
    }

    private static boolean areOrders(int[] items, int i, int n) {
        for (int k = i; k < i + n; k++) {
            if (!isOrder(items[k])) {
                return false;
            }
        }
        return true;
    }

    private static boolean isOrder(int item) {
        return within(item, 0, MOST_WAYS - 1)
            || within(item, IF_KNOWN, IF_KNOWN + MOST_NEWS - 1)
            || item == WAIT;
    }

    private static boolean isRow(int row) {
        return within(row, 0, MOST_ROWS - 1);
    }

    private static boolean within(int v, int least, int most) {
        return v >= least && v <= most;
    }

    private static int tillHorizon(int day) {
        return day > HORIZON ? NONE : day;
    }

    private static boolean isKind(int own, int asked) {
        switch (asked) {
            case SHIP: return true;
            case TRADER: return own == TRADER || own == CUTTER || own == BARGE;
            case COURIER: return own == COURIER || own == GHOST;
            default: return own == asked;
        }
    }

    private static int commonDivisor(int a, int b) {
        // Both are 10000 at most, so far fewer rounds are enough.
        for (int round = 0; round < 100 && b != 0; round++) {
            int rest = a % b;
            a = b;
            b = rest;
        }
        return a;
    }

    /** The ROWS; their items are cut to the LANE as they come. */
    private static final class Rows {
        final int[] lanes = new int[MOST_ROWS];
        final int[] sizes = new int[MOST_ROWS];
        final int[][] items = new int[MOST_ROWS][MOST_ITEMS];

        Rows() {
            Arrays.fill(lanes, MISSING);
        }

        boolean isMissing(int row) {
            return lanes[row] == MISSING;
        }

        int present() {
            int present = 0;
            for (int row = 0; row < MOST_ROWS; row++) {
                if (!isMissing(row)) {
                    present++;
                }
            }
            return present;
        }

        void lay(int row, int lane, int n) {
            lanes[row] = lane;
            sizes[row] = n;
            Arrays.fill(items[row], 0);
        }

        int put(int row, int i, int v) {
            int cut = v;
            if (lanes[row] == BYTES) {
                cut = (byte) v;
            } else if (lanes[row] == SHORTS) {
                cut = (short) v;
            }
            items[row][i] = cut;
            return cut;
        }

        /** The number of the FINDING of n ITEMS from i on, or 0. */
        int findingAt(int row, int i, int n) {
            if (isMissing(row)) {
                return NULL;
            }
            return hasPlaces(row, i, n) ? 0 : PLACE;
        }

        int findingOfMove(int a, int i, int b, int j, int n) {
            if (isMissing(a) || isMissing(b)) {
                return NULL;
            }
            if (lanes[a] != lanes[b]) {
                return STORE;
            }
            return hasPlaces(a, i, n) && hasPlaces(b, j, n) ? 0 : PLACE;
        }

        private boolean hasPlaces(int row, int i, int n) {
            // i + n could overflow; the size less n, that is not below 0, can't.
            return i >= 0 && n >= 0 && i <= sizes[row] - n;
        }
    }

    /** The tape, and the TOKEN of it that is in view. */
    private static final class Tape {
        final int[] bytes = new int[MOST_BYTES];
        int size;
        int token;
        int value;
        int start;
        private int behind;

        void rewind() {
            behind = 0;
            step();
        }

        /** Brings the next TOKEN in view; at the end, the end stays. */
        void step() {
            start = behind;
            token = start < size ? bytes[start] : END;
            behind = Math.min(start + 1, size);
            if (isFigure(token)) {
                value = 0;
                for (behind = start; behind < size && isFigure(bytes[behind]); behind++) {
                    value = value * 10 + bytes[behind] - '0';
                }
                token = behind - start <= MOST_FIGURES ? NUMBER : NO_TOKEN;
            }
        }

        private static boolean isFigure(int b) {
            return b >= '0' && b <= '9';
        }
    }

    /** Reads the tape into a draft, so that a FAULT leaves the LEAGUE as it is. */
    private static final class Reader {
        final League draft = new League();
        int fault;
        private final Tape tape;

        Reader(Tape tape) {
            this.tape = tape;
        }

        boolean readWhole() {
            draft.clear();
            tape.rewind();
            return readPorts() && readWays() && readShips() && expect(END);
        }

        private boolean readPorts() {
            if (!expect('p')) {
                return false;
            }
            int ports = number(LEAST_PORTS, MOST_PORTS, NONE);
            if (ports < 0) {
                return false;
            }
            draft.ports = ports;
            return expect(';');
        }

        private boolean readWays() {
            for (int i = 0; i < MOST_WAYS && tape.token == 'w'; i++) {
                if (!readWay()) {
                    return false;
                }
            }
            return tape.token != 'w' || refuse(NO_ROOM);
        }

        private boolean readWay() {
            tape.step();
            int a = number(0, draft.ports - 1, NONE);
            if (a < 0 || !expect(',')) {
                return false;
            }
            int b = number(0, draft.ports - 1, a);
            if (b < 0 || !expect(',')) {
                return false;
            }
            int days = number(1, MOST_DAYS_OF_WAY, NONE);
            if (days < 0 || !expect(';')) {
                return false;
            }
            draft.addWay(a, b, days);
            return true;
        }

        private boolean readShips() {
            for (int i = 0; i < MOST_SHIPS && kindOf(tape.token) != 0; i++) {
                if (!readShip()) {
                    return false;
                }
            }
            return kindOf(tape.token) == 0 || refuse(NO_ROOM);
        }

        private boolean readShip() {
            int kind = kindOf(tape.token);
            tape.step();
            int port = number(0, draft.ports - 1, NONE);
            if (port < 0 || !expect(';')) {
                return false;
            }
            draft.addShip(kind, port);
            return true;
        }

        private static int kindOf(int token) {
            switch (token) {
                case 't': return TRADER;
                case 'c': return CUTTER;
                case 'b': return BARGE;
                case 'm': return COURIER;
                case 'g': return GHOST;
                default: return 0;
            }
        }

        private boolean expect(int token) {
            if (tape.token != token) {
                return refuse(MISPLACED);
            }
            tape.step();
            return true;
        }

        /** The NUMBER in view, or one below 0 if it has a FAULT. */
        private int number(int least, int most, int unlike) {
            if (tape.token != NUMBER) {
                refuse(MISPLACED);
                return NONE;
            }
            int value = tape.value;
            if (!within(value, least, most) || value == unlike) {
                refuse(WRONG_NUMBER);
                return NONE;
            }
            tape.step();
            return value;
        }

        private boolean refuse(int number) {
            fault = number;
            return false;
        }
    }

    /** A LEAGUE on a DAY; one without PORTS is none. */
    private static final class League {
        int ports;
        int ways;
        int ships;
        int day;
        int newsCount;
        final int[] wayFrom = new int[MOST_WAYS];
        final int[] wayTo = new int[MOST_WAYS];
        final int[] wayDays = new int[MOST_WAYS];
        final int[] kinds = new int[MOST_SHIPS];
        final int[] berth = new int[MOST_SHIPS];
        // The DAY when it is in its PORT: one that is gone by, if it is there.
        final int[] due = new int[MOST_SHIPS];
        final int[] pence = new int[MOST_SHIPS];
        final int[] told = new int[MOST_SHIPS];
        final int[] begun = new int[MOST_NEWS];
        final int[] origin = new int[MOST_NEWS];
        final int[] since = new int[MOST_PORTS * MOST_NEWS];

        void clear() {
            ports = 0;
            ways = 0;
            ships = 0;
            day = 0;
            newsCount = 0;
            Arrays.fill(since, NONE);
        }

        void become(League other) {
            ports = other.ports;
            ways = other.ways;
            ships = other.ships;
            day = other.day;
            newsCount = other.newsCount;
            System.arraycopy(other.wayFrom, 0, wayFrom, 0, MOST_WAYS);
            System.arraycopy(other.wayTo, 0, wayTo, 0, MOST_WAYS);
            System.arraycopy(other.wayDays, 0, wayDays, 0, MOST_WAYS);
            System.arraycopy(other.kinds, 0, kinds, 0, MOST_SHIPS);
            System.arraycopy(other.berth, 0, berth, 0, MOST_SHIPS);
            System.arraycopy(other.due, 0, due, 0, MOST_SHIPS);
            System.arraycopy(other.pence, 0, pence, 0, MOST_SHIPS);
            System.arraycopy(other.told, 0, told, 0, MOST_SHIPS);
            System.arraycopy(other.begun, 0, begun, 0, MOST_NEWS);
            System.arraycopy(other.origin, 0, origin, 0, MOST_NEWS);
            System.arraycopy(other.since, 0, since, 0, MOST_PORTS * MOST_NEWS);
        }

        boolean isNone() {
            return ports == 0;
        }

        boolean isPort(int port) {
            return port >= 0 && port < ports;
        }

        boolean isWay(int way) {
            return way >= 0 && way < ways;
        }

        boolean isShip(int ship) {
            return ship >= 0 && ship < ships;
        }

        boolean isNews(int news) {
            return news >= 0 && news < newsCount;
        }

        void addWay(int a, int b, int days) {
            if (ways < MOST_WAYS) {
                wayFrom[ways] = a;
                wayTo[ways] = b;
                wayDays[ways] = days;
                ways++;
            }
        }

        void addShip(int kind, int port) {
            if (ships < MOST_SHIPS) {
                kinds[ships] = kind;
                berth[ships] = port;
                due[ships] = 0;
                pence[ships] = 0;
                told[ships] = 0;
                ships++;
            }
        }

        /** How many DAYS a WAY takes a SHIP of a KIND, or a SIGNAL. */
        int daysOn(int way, int mover) {
            int days = wayDays[way];
            switch (mover) {
                case CUTTER: return (days + 1) / 2;
                case BARGE: return 2 * days;
                case COURIER:
                case GHOST: return Math.max(1, days - 1);
                case SIGNAL: return 3 * days;
                default: return days;
            }
        }

        boolean isAtSea(int ship) {
            return due[ship] > day;
        }

        boolean canLeave(int ship, int way) {
            return !isAtSea(ship) && (wayFrom[way] == berth[ship] || wayTo[way] == berth[ship]);
        }

        void leave(int ship, int way) {
            berth[ship] = wayFrom[way] == berth[ship] ? wayTo[way] : wayFrom[way];
            due[ship] = day + daysOn(way, kinds[ship]);
        }

        boolean isTold(int ship, int news) {
            return (told[ship] >> news & 1) == 1;
        }

        int knownSince(int port, int news) {
            return since[port * MOST_NEWS + news];
        }

        /** A PORT that does not know NEWS knows it from this DAY on: how many did so. */
        private int learn(int port, int news) {
            if (knownSince(port, news) != NONE) {
                return 0;
            }
            since[port * MOST_NEWS + news] = day;
            return 1;
        }

        int newsIn(int port) {
            int bits = 0;
            for (int news = 0; news < newsCount; news++) {
                if (knownSince(port, news) != NONE) {
                    bits |= 1 << news;
                }
            }
            return bits;
        }

        int shipsIn(int port) {
            int bits = 0;
            for (int ship = 0; ship < ships; ship++) {
                if (berth[ship] == port && !isAtSea(ship)) {
                    bits |= 1 << ship;
                }
            }
            return bits;
        }

        int shipsAtSea() {
            int bits = 0;
            for (int ship = 0; ship < ships; ship++) {
                if (isAtSea(ship)) {
                    bits |= 1 << ship;
                }
            }
            return bits;
        }

        int begin(int port) {
            int news = newsCount;
            if (news >= MOST_NEWS) {
                return NONE;
            }
            newsCount++;
            begun[news] = day;
            origin[news] = port;
            learn(port, news);
            tellShipsInPorts();
            return news;
        }

        /** A DAY goes by: how many times a PORT came to know some NEWS. */
        int passDay() {
            day++;
            int times = 0;
            for (int way = 0; way < ways; way++) {
                times += signal(way, wayFrom[way], wayTo[way]);
                times += signal(way, wayTo[way], wayFrom[way]);
            }
            for (int ship = 0; ship < ships; ship++) {
                if (due[ship] == day) {
                    times += tellPort(ship);
                }
            }
            tellShipsInPorts();
            return times;
        }

        // What was heard on this DAY is 0 DAYS old, so no SIGNAL goes on from it yet.
        private int signal(int way, int from, int to) {
            int times = 0;
            for (int news = 0; news < newsCount; news++) {
                int known = knownSince(from, news);
                if (known != NONE && day - known >= daysOn(way, SIGNAL)) {
                    times += learn(to, news);
                }
            }
            return times;
        }

        private int tellPort(int ship) {
            int times = 0;
            for (int news = 0; news < newsCount; news++) {
                if (isTold(ship, news) && learn(berth[ship], news) == 1) {
                    times++;
                    pence[ship] += Math.max(0, FIRST_PENCE - (day - begun[news]));
                }
            }
            return times;
        }

        private void tellShipsInPorts() {
            for (int ship = 0; ship < ships; ship++) {
                if (!isAtSea(ship) && kinds[ship] != GHOST) {
                    told[ship] |= newsIn(berth[ship]);
                }
            }
        }
    }

    /** The LEAGUE as it was ahead of each of the latest ACTS, in a ring. */
    private static final class Acts {
        private final League[] before = new League[MOST_ACTS];
        private int next;
        int size;

        Acts() {
            for (int i = 0; i < MOST_ACTS; i++) {
                before[i] = new League();
            }
        }

        void forget() {
            size = 0;
        }

        void keep(League league) {
            before[next].become(league);
            next = next + 1 < MOST_ACTS ? next + 1 : 0;
            size = Math.min(size + 1, MOST_ACTS);
        }

        void giveBack(League league) {
            if (size > 0) {
                next = next > 0 ? next - 1 : MOST_ACTS - 1;
                size--;
                league.become(before[next]);
            }
        }
    }

    /** What comes if SHIPS that are at sea come in, and none but one SAILS. */
    private static final class Foretold {
        // DAYS by PORTS, FAR where that never comes: from which NEWS is known,
        // on which the one SHIP can be there, and can be there knowing it.
        final int[] since = new int[MOST_PORTS];
        final int[] there = new int[MOST_PORTS];
        final int[] knowing = new int[MOST_PORTS];
        private final int[] heard = new int[MOST_PORTS];
        private final int[] heardFromOne = new int[MOST_PORTS];
        private final League league;

        Foretold(League league) {
            this.league = league;
        }

        /** From when PORTS know NEWS, if SHIPS (bits) tell nothing any more. */
        void foretell(int news, int silent) {
            for (int port = 0; port < league.ports; port++) {
                int known = league.knownSince(port, news);
                since[port] = known == NONE ? FAR : known;
            }
            int telling = league.shipsAtSea() & ~silent;
            for (int ship = 0; ship < league.ships; ship++) {
                if ((telling >> ship & 1) == 1 && league.isTold(ship, news)) {
                    int port = league.berth[ship];
                    since[port] = Math.min(since[port], league.due[ship]);
                }
            }
            spread(since, SIGNAL);
            for (int port = 0; port < league.ports; port++) {
                if (since[port] > HORIZON) {
                    since[port] = FAR;
                }
            }
        }

        /** The same without one SHIP, and where this can be when. */
        void foretellWithout(int ship, int news) {
            foretell(news, 1 << ship);
            Arrays.fill(there, FAR);
            there[league.berth[ship]] = Math.max(league.due[ship], league.day);
            spread(there, league.kinds[ship]);
        }

        /** Where and when the SHIP of foretellWithout can first be one that knows. */
        void foretellKnowing(int ship, int news) {
            Arrays.fill(knowing, FAR);
            if (league.kinds[ship] == GHOST) {
                return;
            }
            if (league.isTold(ship, news)) {
                int port = league.berth[ship];
                knowing[port] = there[port];
                return;
            }
            for (int port = 0; port < league.ports; port++) {
                knowing[port] = Math.max(there[port], since[port]);
            }
        }

        int dayCarried(int ship, int port, int news) {
            foretellWithout(ship, news);
            foretellKnowing(ship, news);
            spread(knowing, league.kinds[ship]);
            return Math.min(since[port], knowing[port]);
        }

        int daysAhead(int ship, int port, int news) {
            foretellWithout(ship, news);
            boolean ahead = since[port] != FAR && there[port] < since[port];
            return ahead ? since[port] - there[port] : NONE;
        }

        int dayAllSure(int news, int k) {
            foretell(news, 0);
            for (int level = 0; level < k; level++) {
                hearFromAll();
            }
            int latest = 0;
            for (int port = 0; port < league.ports; port++) {
                latest = Math.max(latest, since[port]);
            }
            return latest > SURE_HORIZON ? NONE : latest;
        }

        private void hearFromAll() {
            Arrays.fill(heard, 0);
            for (int sender = 0; sender < league.ports; sender++) {
                spreadFrom(sender, since[sender]);
                for (int port = 0; port < league.ports; port++) {
                    heard[port] = Math.max(heard[port], heardFromOne[port]);
                }
            }
            System.arraycopy(heard, 0, since, 0, MOST_PORTS);
        }

        private void spreadFrom(int sender, int day) {
            Arrays.fill(heardFromOne, FAR);
            heardFromOne[sender] = day;
            spread(heardFromOne, SIGNAL);
        }

        /** The PORTS (bits) in which NEWS can have begun, by n pairs of ITEMS from i on. */
        int origins(int[] items, int i, int n) {
            int bits = 0;
            for (int port = 0; port < league.ports; port++) {
                spreadFrom(port, 0);
                if (fits(items, i, n)) {
                    bits |= 1 << port;
                }
            }
            return bits;
        }

        private boolean fits(int[] items, int i, int n) {
            int day = NONE;
            for (int k = i; k < i + 2 * n; k += 2) {
                int start = items[k + 1] - heardFromOne[items[k]];
                if (start < 0 || day != NONE && day != start) {
                    return false;
                }
                day = start;
            }
            return true;
        }

        /** The weight of all losses with which a PORT knows NEWS on a DAY. */
        int weightInTime(int port, int news, int day, int c) {
            int weight = 0;
            int atSea = league.shipsAtSea();
            for (int lost = 0; lost <= atSea; lost++) {
                if ((lost & ~atSea) == 0) {
                    foretell(news, lost);
                    weight += since[port] <= day ? weightOf(lost, atSea, c) : 0;
                }
            }
            return weight;
        }

        private static int weightOf(int lost, int atSea, int c) {
            int weight = 1;
            for (int ship = 0; ship < MOST_SHIPS; ship++) {
                if ((atSea >> ship & 1) == 1) {
                    weight *= (lost >> ship & 1) == 1 ? c : MOST_LOSS - c;
                }
            }
            return weight;
        }

        int weightOfAll() {
            // If nothing can be lost, the one case that is left weighs it all.
            return weightOf(0, league.shipsAtSea(), 0);
        }

        /** Lets DAYS go from PORT to PORT, as soon as the mover is there. */
        private void spread(int[] days, int mover) {
            // The shortest course has fewer WAYS than there are PORTS.
            for (int round = 1; round < MOST_PORTS; round++) {
                for (int way = 0; way < league.ways; way++) {
                    int a = league.wayFrom[way];
                    int b = league.wayTo[way];
                    int more = league.daysOn(way, mover);
                    days[b] = Math.min(days[b], days[a] + more);
                    days[a] = Math.min(days[a], days[b] + more);
                }
            }
        }
    }

    /** To how many PORTS a SHIP can be the first with NEWS. */
    private static final class Renown {
        int mostPorts;
        int fewestDays;
        // The least DAY, by the PORTS that it came to as the first (bits) and its PORT.
        private final int[] earliest = new int[(1 << MOST_PORTS) * MOST_PORTS];
        private int lastDay;
        private boolean earlier;
        private final League league;
        private final Foretold foretold;

        Renown(League league, Foretold foretold) {
            this.league = league;
            this.foretold = foretold;
        }

        void seek(int ship, int news, int d) {
            foretold.foretellWithout(ship, news);
            foretold.foretellKnowing(ship, news);
            lastDay = league.day + d;
            Arrays.fill(earliest, FAR);
            for (int port = 0; port < league.ports; port++) {
                come(0, port, foretold.knowing[port]);
            }
            mostPorts = 0;
            fewestDays = 0;
            // Who sails on is never the first to fewer PORTS, so a set is settled in its turn.
            for (int first = 0; first < 1 << league.ports; first++) {
                settle(first, league.kinds[ship]);
                judge(first);
            }
        }

        private void come(int before, int port, int day) {
            if (day > lastDay) {
                return;
            }
            int first = day < foretold.since[port] ? before | 1 << port : before;
            int place = first * MOST_PORTS + port;
            if (day < earliest[place]) {
                earliest[place] = day;
                earlier = true;
            }
        }

        private void settle(int first, int kind) {
            earlier = true;
            for (int round = 0; round < MOST_PORTS && earlier; round++) {
                earlier = false;
                for (int way = 0; way < league.ways; way++) {
                    int more = league.daysOn(way, kind);
                    int a = league.wayFrom[way];
                    int b = league.wayTo[way];
                    come(first, b, earliest[first * MOST_PORTS + a] + more);
                    come(first, a, earliest[first * MOST_PORTS + b] + more);
                }
            }
        }

        private void judge(int first) {
            int count = Integer.bitCount(first);
            for (int port = 0; port < league.ports; port++) {
                int day = earliest[first * MOST_PORTS + port];
                if (day <= lastDay && count > 0) {
                    judgeOne(count, day - league.day);
                }
            }
        }

        private void judgeOne(int count, int days) {
            if (count > mostPorts || count == mostPorts && days < fewestDays) {
                mostPorts = count;
                fewestDays = days;
            }
        }
    }

    /** ORDERS that a SHIP follows, in a LEAGUE that is tried out. */
    private static final class Voyage {
        private final League league;
        private final League trial = new League();

        Voyage(League league) {
            this.league = league;
        }

        void follow(int ship, int[] orders, int i, int n) {
            trial.become(league);
            comeIn(ship);
            boolean goesOn = true;
            for (int k = 0; k < n && goesOn && trial.day < HORIZON; k++) {
                int order = orders[i + k];
                if (order == WAIT) {
                    trial.passDay();
                } else if (order < IF_KNOWN) {
                    goesOn = setOut(ship, order);
                    comeIn(ship);
                } else if (trial.isTold(ship, order - IF_KNOWN)) {
                    k++;
                }
            }
        }

        int outcome(int ship, int what) {
            switch (what) {
                case 0: return trial.day;
                case 1: return trial.berth[ship];
                default: return trial.told[ship];
            }
        }

        private boolean setOut(int ship, int way) {
            if (!trial.isWay(way) || !trial.canLeave(ship, way)) {
                return false;
            }
            trial.leave(ship, way);
            return true;
        }

        private void comeIn(int ship) {
            for (int day = trial.day; day < HORIZON && trial.isAtSea(ship); day++) {
                trial.passDay();
            }
        }
    }

    /** The BODIES of the ASKS, and THE TRACE of those that began. */
    private static final class Asks {
        final int[] bodies = new int[MOST_STEPS];
        int steps;
        private final League league;

        Asks(League league) {
            this.league = league;
        }

        int sizeOf(int ship) {
            switch (league.kinds[ship]) {
                case COURIER:
                case GHOST: return sizeAmongCouriers(ship);
                case CUTTER:
                    leave(12);
                    return -sizeOfTrader(ship);
                default: return sizeOfTrader(ship);
            }
        }

        int markOf(int ship) {
            switch (league.kinds[ship]) {
                case COURIER:
                case GHOST:
                    leave(23);
                    return markOfShip(ship) - sizeAmongCouriers(ship);
                default: return markAmongTraders(ship);
            }
        }

        private int sizeOfShip(int ship) {
            leave(10);
            return league.pence[ship];
        }

        private int sizeOfTrader(int ship) {
            leave(11);
            return sizeOfShip(ship) + markAmongTraders(ship);
        }

        private int sizeAmongCouriers(int ship) {
            if (league.kinds[ship] == GHOST) {
                leave(14);
                return 2 * sizeOfCourier(ship);
            }
            return sizeOfCourier(ship);
        }

        private int sizeOfCourier(int ship) {
            leave(13);
            return sizeOfShip(ship) - 100;
        }

        private int markOfShip(int ship) {
            leave(20);
            return ship;
        }

        private int markAmongTraders(int ship) {
            switch (league.kinds[ship]) {
                case CUTTER:
                    leave(24);
                    return 2 * markOfTrader(ship);
                case BARGE:
                    leave(22);
                    return markOfTrader(ship) - 1000;
                default: return markOfTrader(ship);
            }
        }

        private int markOfTrader(int ship) {
            leave(21);
            return markOfShip(ship) + Integer.bitCount(league.told[ship]);
        }

        private void leave(int body) {
            if (steps < MOST_STEPS) {
                bodies[steps] = body;
                steps++;
            }
        }
    }
}
