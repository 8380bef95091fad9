import java.util.ArrayDeque;
import java.util.ArrayList;
import java.util.Deque;
import java.util.List;
import java.util.TreeMap;

/**
 * The document once more, as literally as can be: days go by one by one, courses are all tried out.
 * It shares no code with the class, so that the two can be held against one another.
 */
final class Model {
    static final int NONE = -1000000, BAD = -1000001, STATE = -1000002, FULL = -1000003;

    record Way(int a, int b, int days) {
        boolean ends(int port) {
            return a == port || b == port;
        }

        int other(int port) {
            return a == port ? b : a;
        }
    }

    /** The KINDS as classes, so that bodies are found as Java finds them. */
    interface Ship {
        Sea sea();

        default int size() {
            sea().model.left.add(10);
            return sea().pence;
        }

        default int mark() {
            sea().model.left.add(20);
            return sea().number;
        }
    }

    static class Trader implements Ship {
        final Sea sea;

        Trader(Sea sea) {
            this.sea = sea;
        }

        public Sea sea() {
            return sea;
        }

        public int size() {
            sea.model.left.add(11);
            return Ship.super.size() + mark();
        }

        public int mark() {
            sea.model.left.add(21);
            return Ship.super.mark() + Integer.bitCount(sea.told);
        }
    }

    static final class Cutter extends Trader {
        Cutter(Sea sea) {
            super(sea);
        }

        public int size() {
            sea.model.left.add(12);
            return 0 - super.size();
        }

        public int mark() {
            sea.model.left.add(24);
            return super.mark() * 2;
        }
    }

    static final class Barge extends Trader {
        Barge(Sea sea) {
            super(sea);
        }

        public int mark() {
            sea.model.left.add(22);
            return super.mark() - 1000;
        }
    }

    static class Courier implements Ship {
        final Sea sea;

        Courier(Sea sea) {
            this.sea = sea;
        }

        public Sea sea() {
            return sea;
        }

        public int size() {
            sea.model.left.add(13);
            return Ship.super.size() - 100;
        }

        public int mark() {
            sea.model.left.add(23);
            return Ship.super.mark() - size();
        }
    }

    static final class Ghost extends Courier {
        Ghost(Sea sea) {
            super(sea);
        }

        public int size() {
            sea.model.left.add(14);
            return super.size() * 2;
        }
    }

    /** What there is to tell of one SHIP. */
    static final class Sea {
        Model model;
        int number;
        char sort;
        int port;
        boolean atSea;
        int due;
        int pence;
        int told;
        boolean silent;

        Sea copied() {
            Sea s = new Sea();
            s.model = model;
            s.number = number;
            s.sort = sort;
            s.port = port;
            s.atSea = atSea;
            s.due = due;
            s.pence = pence;
            s.told = told;
            s.silent = silent;
            return s;
        }

        int takes(Way way) {
            switch (sort) {
                case 't': return way.days();
                case 'c': return way.days() - way.days() / 2;
                case 'b': return way.days() * 2;
                default: return way.days() == 1 ? 1 : way.days() - 1;
            }
        }

        Ship ship() {
            switch (sort) {
                case 't': return new Trader(this);
                case 'c': return new Cutter(this);
                case 'b': return new Barge(this);
                case 'm': return new Courier(this);
                default: return new Ghost(this);
            }
        }
    }

    static final class World {
        int ports;
        List<Way> ways = new ArrayList<>();
        List<Sea> ships = new ArrayList<>();
        int day;
        List<int[]> news = new ArrayList<>();
        List<TreeMap<Integer, Integer>> known = new ArrayList<>();

        World copied() {
            World w = new World();
            w.ports = ports;
            w.ways.addAll(ways);
            w.day = day;
            for (Sea s : ships) {
                w.ships.add(s.copied());
            }
            w.news.addAll(news);
            for (TreeMap<Integer, Integer> k : known) {
                w.known.add(new TreeMap<>(k));
            }
            return w;
        }

        void begins(int port) {
            news.add(new int[] {day, port});
            known.get(port).put(news.size() - 1, day);
            hearInPorts();
        }

        void sails(int ship, Way way) {
            Sea s = ships.get(ship);
            s.port = way.other(s.port);
            s.atSea = true;
            s.due = day + s.takes(way);
        }

        int dayGoesBy() {
            day++;
            int times = 0;
            List<TreeMap<Integer, Integer>> before = new ArrayList<>();
            for (TreeMap<Integer, Integer> k : known) {
                before.add(new TreeMap<>(k));
            }
            for (int p = 0; p < ports; p++) {
                for (int n = 0; n < news.size(); n++) {
                    boolean hears = false;
                    for (Way w : ways) {
                        if (w.ends(p)) {
                            Integer since = before.get(w.other(p)).get(n);
                            hears |= since != null && day - since >= 3 * w.days();
                        }
                    }
                    if (hears && !known.get(p).containsKey(n)) {
                        known.get(p).put(n, day);
                        times++;
                    }
                }
            }
            for (Sea s : ships) {
                if (s.atSea && s.due == day) {
                    s.atSea = false;
                    times += tells(s);
                }
            }
            hearInPorts();
            return times;
        }

        private int tells(Sea s) {
            int times = 0;
            for (int n = 0; n < news.size(); n++) {
                if (!s.silent && (s.told & 1 << n) != 0 && !known.get(s.port).containsKey(n)) {
                    known.get(s.port).put(n, day);
                    s.pence += Math.max(0, 10 - (day - news.get(n)[0]));
                    times++;
                }
            }
            return times;
        }

        private void hearInPorts() {
            for (Sea s : ships) {
                if (!s.atSea && s.sort != 'g') {
                    for (int n : known.get(s.port).keySet()) {
                        s.told |= 1 << n;
                    }
                }
            }
        }

        /** The DAY from which each PORT knows NEWS, WITHOUT the SHIPS (bits); null: not till DAY 150. */
        Integer[] ahead(int n, int silent) {
            World w = copied();
            for (Sea s : w.ships) {
                s.silent = (silent & 1 << s.number) != 0;
            }
            while (w.day < 150) {
                w.dayGoesBy();
            }
            Integer[] all = new Integer[ports];
            for (int p = 0; p < ports; p++) {
                all[p] = w.known.get(p).get(n);
            }
            return all;
        }

        /** How many DAYS a SIGNAL takes from PORT to PORT. */
        Integer[][] signals() {
            Integer[][] all = new Integer[ports][ports];
            for (int from = 0; from < ports; from++) {
                World w = new World();
                w.ports = ports;
                w.ways.addAll(ways);
                for (int p = 0; p < ports; p++) {
                    w.known.add(new TreeMap<>());
                }
                w.begins(from);
                for (int i = 0; i < 200; i++) {
                    w.dayGoesBy();
                }
                for (int to = 0; to < ports; to++) {
                    all[from][to] = w.known.get(to).get(0);
                }
            }
            return all;
        }
    }

    World now;
    final Deque<World> undo = new ArrayDeque<>();
    final World[] images = new World[2];
    final int[][] rows = new int[8][];
    final int[] lanes = new int[8];
    final List<Integer> tape = new ArrayList<>();
    List<Integer> left = new ArrayList<>();
    int fault;
    int status;

    private boolean port(int p) {
        return now != null && p >= 0 && p < now.ports;
    }

    private boolean way(int w) {
        return now != null && w >= 0 && w < now.ways.size();
    }

    private boolean ship(int s) {
        return now != null && s >= 0 && s < now.ships.size();
    }

    private boolean news(int n) {
        return now != null && n >= 0 && n < now.news.size();
    }

    private static boolean in(long v, long a, long b) {
        return a <= v && v <= b;
    }

    private int found(int n) {
        status = n;
        return -1000010 - n;
    }

    private int fine(int answer) {
        status = 0;
        return answer;
    }

    private void act() {
        undo.addLast(now.copied());
        if (undo.size() > 24) {
            undo.removeFirst();
        }
    }

    int row(int row, int lane, int n) {
        if (!in(row, 0, 7) || !in(lane, 0, 2) || n > 40) {
            return BAD;
        }
        if (n < 0) {
            return found(4);
        }
        rows[row] = new int[n];
        lanes[row] = lane;
        return fine(n);
    }

    int set(int row, int i, int v) {
        if (!in(row, 0, 7)) {
            return BAD;
        }
        if (rows[row] == null) {
            return found(1);
        }
        if (!in(i, 0, rows[row].length - 1)) {
            return found(2);
        }
        int bits = 8 << lanes[row];
        rows[row][i] = v << 32 - bits >> 32 - bits;
        return fine(rows[row][i]);
    }

    int copy(int a, int i, int b, int j, int n) {
        if (!in(a, 0, 7) || !in(b, 0, 7)) {
            return BAD;
        }
        if (rows[a] == null || rows[b] == null) {
            return found(1);
        }
        if (lanes[a] != lanes[b]) {
            return found(5);
        }
        if (i < 0 || j < 0 || n < 0 || (long) i + n > rows[a].length || (long) j + n > rows[b].length) {
            return found(2);
        }
        int[] old = rows[a].clone();
        for (int k = 0; k < n; k++) {
            rows[b][j + k] = old[i + k];
        }
        return fine(n);
    }

    int drop(int row) {
        if (!in(row, 0, 7)) {
            return BAD;
        }
        if (rows[row] == null) {
            return found(1);
        }
        int n = rows[row].length;
        rows[row] = null;
        return fine(n);
    }

    int feed(int letter) {
        if (!in(letter, 0, 255)) {
            return BAD;
        }
        if (tape.size() == 120) {
            return FULL;
        }
        tape.add(letter);
        return tape.size();
    }

    int league() {
        StringBuilder text = new StringBuilder();
        for (int b : tape) {
            text.append((char) b);
        }
        tape.clear();
        ModelText read = new ModelText(text.toString());
        if (read.fault != 0) {
            fault = read.fault;
            return -1000100 - read.place;
        }
        now = new World();
        now.ports = read.ports;
        for (int p = 0; p < now.ports; p++) {
            now.known.add(new TreeMap<>());
        }
        for (int[] w : read.ways) {
            now.ways.add(new Way(w[0], w[1], w[2]));
        }
        for (int[] s : read.ships) {
            Sea sea = new Sea();
            sea.model = this;
            sea.number = now.ships.size();
            sea.sort = (char) s[0];
            sea.port = s[1];
            now.ships.add(sea);
        }
        undo.clear();
        return now.ports;
    }

    int fault() {
        return fault;
    }

    int happen(int port) {
        if (!port(port)) {
            return BAD;
        }
        if (now.news.size() == 4) {
            return FULL;
        }
        act();
        now.begins(port);
        return now.news.size() - 1;
    }

    int sail(int ship, int way) {
        if (!ship(ship) || !way(way)) {
            return BAD;
        }
        Sea s = now.ships.get(ship);
        if (s.atSea || !now.ways.get(way).ends(s.port)) {
            return STATE;
        }
        act();
        now.sails(ship, now.ways.get(way));
        return now.ships.get(ship).due;
    }

    int days(int n) {
        if (now == null) {
            return STATE;
        }
        if (!in(n, 1, 20)) {
            return BAD;
        }
        if (now.day + n > 99) {
            return FULL;
        }
        int times = 0;
        for (int i = 0; i < n; i++) {
            act();
            times += now.dayGoesBy();
        }
        return times;
    }

    int undo() {
        if (undo.isEmpty()) {
            return STATE;
        }
        now = undo.removeLast();
        return undo.size();
    }

    int ship(int ship, int what) {
        if (!ship(ship) || !in(what, 0, 3)) {
            return BAD;
        }
        Sea s = now.ships.get(ship);
        return new int[] {s.port, s.atSea ? s.due - now.day : 0, s.pence, s.told}[what];
    }

    int port(int port, int what) {
        if (!port(port) || !in(what, 0, 1)) {
            return BAD;
        }
        int bits = 0;
        if (what == 0) {
            for (int n : now.known.get(port).keySet()) {
                bits |= 1 << n;
            }
        } else {
            for (Sea s : now.ships) {
                bits |= !s.atSea && s.port == port ? 1 << s.number : 0;
            }
        }
        return bits;
    }

    int news(int news, int what) {
        return !news(news) || !in(what, 0, 1) ? BAD : now.news.get(news)[what];
    }

    int knows(int port, int news) {
        if (!port(port) || !news(news)) {
            return BAD;
        }
        return now.known.get(port).getOrDefault(news, NONE);
    }

    int takes(int ship, int way) {
        return !ship(ship) || !way(way) ? BAD : now.ships.get(ship).takes(now.ways.get(way));
    }

    int ahead(int port, int news) {
        if (!port(port) || !news(news)) {
            return BAD;
        }
        Integer day = now.ahead(news, 0)[port];
        return day == null ? NONE : day;
    }

    /** All courses of a SHIP, DAY by DAY: by day, port, whether it knows, the ports it came to ahead. */
    private final class Courses {
        final Integer[] without;
        final boolean[][][][] can = new boolean[151][6][2][64];
        final boolean[][][] came = new boolean[151][6][2];
        final Sea sea;
        final int last;

        Courses(int ship, int news, int last) {
            this.last = last;
            without = now.ahead(news, 1 << ship);
            sea = now.ships.get(ship);
            int from = sea.atSea ? sea.due : now.day;
            if (from <= last) {
                comes(from, sea.port, (sea.told & 1 << news) != 0 ? 1 : 0, 0);
            }
            for (int day = from; day <= last; day++) {
                goOn(day);
            }
        }

        private void comes(int day, int port, int knows, int mask) {
            came[day][port][knows] = true;
            boolean first = knows == 1 && (without[port] == null || day < without[port]);
            can[day][port][knows][first ? mask | 1 << port : mask] = true;
        }

        private void goOn(int day) {
            for (int port = 0; port < now.ports; port++) {
                for (int knows = 0; knows < 2; knows++) {
                    for (int mask = 0; mask < 64; mask++) {
                        if (can[day][port][knows][mask]) {
                            goOn(day, port, knows, mask);
                        }
                    }
                }
            }
        }

        private void goOn(int day, int port, int knows, int mask) {
            boolean learns = sea.sort != 'g' && without[port] != null && without[port] <= day;
            int k = learns ? 1 : knows;
            if (day < last) {
                can[day + 1][port][k][mask] = true;
            }
            for (Way w : now.ways) {
                if (w.ends(port) && day + sea.takes(w) <= last) {
                    comes(day + sea.takes(w), w.other(port), k, mask);
                }
            }
        }
    }

    int carried(int ship, int port, int news) {
        if (!ship(ship) || !port(port) || !news(news)) {
            return BAD;
        }
        Courses c = new Courses(ship, news, 150);
        if (c.without[port] != null && c.without[port] <= now.day) {
            return c.without[port];
        }
        for (int day = now.day; day <= 150; day++) {
            if (c.came[day][port][1] || c.without[port] != null && c.without[port] == day) {
                return day;
            }
        }
        return NONE;
    }

    int fame(int ship, int news, int d, int what) {
        if (!ship(ship) || !news(news) || !in(d, 0, 30) || !in(what, 0, 1)) {
            return BAD;
        }
        Courses c = new Courses(ship, news, now.day + d);
        int most = 0;
        int fewest = 0;
        for (int day = now.day; day <= now.day + d; day++) {
            for (int port = 0; port < now.ports; port++) {
                for (int mask = 0; mask < 64; mask++) {
                    if (c.can[day][port][1][mask] && Integer.bitCount(mask) > most) {
                        most = Integer.bitCount(mask);
                        fewest = day - now.day;
                    }
                }
            }
        }
        return what == 0 ? most : fewest;
    }

    int overtaken(int ship, int port, int news) {
        if (!ship(ship) || !port(port) || !news(news)) {
            return BAD;
        }
        Courses c = new Courses(ship, news, 150);
        if (c.without[port] == null) {
            return NONE;
        }
        for (int day = now.day; day < c.without[port]; day++) {
            if (c.came[day][port][0] || c.came[day][port][1]) {
                return c.without[port] - day;
            }
        }
        return NONE;
    }

    int sure(int news, int k) {
        if (!news(news) || !in(k, 0, 3)) {
            return BAD;
        }
        Integer[] sure = now.ahead(news, 0);
        Integer[][] takes = now.signals();
        for (int level = 1; level <= k; level++) {
            Integer[] next = new Integer[now.ports];
            for (int p = 0; p < now.ports; p++) {
                int last = 0;
                for (int q = 0; q < now.ports; q++) {
                    if (sure[q] == null || takes[q][p] == null) {
                        return NONE;
                    }
                    last = Math.max(last, sure[q] + takes[q][p]);
                }
                next[p] = last;
            }
            sure = next;
        }
        int last = 0;
        for (Integer s : sure) {
            if (s == null || s > 999) {
                return NONE;
            }
            last = Math.max(last, s);
        }
        return last;
    }

    int began(int row, int i, int n) {
        if (now == null) {
            return STATE;
        }
        if (!in(row, 0, 7) || !in(n, 0, 6)) {
            return BAD;
        }
        if (rows[row] == null) {
            return found(1);
        }
        if (i < 0 || (long) i + 2 * n > rows[row].length) {
            return found(2);
        }
        for (int k = 0; k < n; k++) {
            if (!port(rows[row][i + 2 * k]) || !in(rows[row][i + 2 * k + 1], 0, 99)) {
                return BAD;
            }
        }
        Integer[][] takes = now.signals();
        int bits = 0;
        for (int p = 0; p < now.ports; p++) {
            for (int day = 0; day <= 99; day++) {
                boolean fits = true;
                for (int k = 0; k < n; k++) {
                    Integer t = takes[p][rows[row][i + 2 * k]];
                    fits &= t != null && day + t == rows[row][i + 2 * k + 1];
                }
                bits |= fits ? 1 << p : 0;
            }
        }
        return fine(bits);
    }

    int odds(int port, int news, int day, int c, int what) {
        if (!port(port) || !news(news) || !in(day, now.day, 150) || !in(c, 0, 10) || !in(what, 0, 1)) {
            return BAD;
        }
        long above = 0;
        long below = 0;
        for (int lost = 0; lost < 1 << now.ships.size(); lost++) {
            long weight = 1;
            for (Sea s : now.ships) {
                boolean gone = (lost & 1 << s.number) != 0;
                weight *= s.atSea ? gone ? c : 10 - c : gone ? 0 : 1;
            }
            Integer since = weight == 0 ? null : now.ahead(news, lost)[port];
            above += since != null && since <= day ? weight : 0;
            below += weight;
        }
        for (long f = below; f > 1; f--) {
            if (above % f == 0 && below % f == 0) {
                above /= f;
                below /= f;
            }
        }
        return (int) (what == 0 ? above : below);
    }

    int followed(int ship, int row, int i, int n, int what) {
        if (!ship(ship) || !in(row, 0, 7) || !in(n, 0, 12) || !in(what, 0, 2)) {
            return BAD;
        }
        if (rows[row] == null) {
            return found(1);
        }
        if (i < 0 || (long) i + n > rows[row].length) {
            return found(2);
        }
        for (int k = i; k < i + n; k++) {
            int o = rows[row][k];
            if (!in(o, 0, 7) && !in(o, 10, 13) && o != 20) {
                return BAD;
            }
        }
        World w = now.copied();
        Sea s = w.ships.get(ship);
        int next = i;
        while (w.day < 150) {
            if (s.atSea) {
                w.dayGoesBy();
                continue;
            }
            if (next >= i + n) {
                break;
            }
            int o = rows[row][next++];
            if (o == 20) {
                w.dayGoesBy();
            } else if (o >= 10) {
                next += (s.told & 1 << o - 10) != 0 ? 1 : 0;
            } else if (o < w.ways.size() && w.ways.get(o).ends(s.port)) {
                w.sails(ship, w.ways.get(o));
            } else {
                break;
            }
        }
        return fine(new int[] {w.day, s.port, s.told}[what]);
    }

    int image(int k) {
        if (!in(k, 0, 1)) {
            return BAD;
        }
        if (now == null) {
            return STATE;
        }
        images[k] = now.copied();
        return 1;
    }

    int restore(int k) {
        if (!in(k, 0, 1)) {
            return BAD;
        }
        if (images[k] == null) {
            return STATE;
        }
        now = images[k].copied();
        undo.clear();
        return 1;
    }

    int kind(int ship) {
        return ship(ship) ? "tcbmg".indexOf(now.ships.get(ship).sort) + 1 : BAD;
    }

    int as(int ship, int kind) {
        if (!ship(ship) || !in(kind, 0, 5)) {
            return BAD;
        }
        Class<?>[] kinds = {Ship.class, Trader.class, Cutter.class, Barge.class, Courier.class, Ghost.class};
        return kinds[kind].isInstance(now.ships.get(ship).ship()) ? fine(ship) : found(3);
    }

    int ask(int ship, int what) {
        if (!ship(ship) || !in(what, 0, 1)) {
            return BAD;
        }
        left = new ArrayList<>();
        Ship s = now.ships.get(ship).ship();
        return what == 0 ? s.size() : s.mark();
    }

    int trace(int i) {
        return in(i, 0, Math.min(16, left.size()) - 1) ? left.get(i) : NONE;
    }

    int count(int what) {
        int there = 0;
        for (int[] r : rows) {
            there += r == null ? 0 : 1;
        }
        if (!in(what, 0, 8)) {
            return BAD;
        }
        World w = now == null ? new World() : now;
        int sea = 0;
        for (Sea s : w.ships) {
            sea += s.atSea ? 1 : 0;
        }
        return new int[] {there, w.ports, w.ways.size(), w.ships.size(), w.day, w.news.size(), sea,
            undo.size(), tape.size()}[what];
    }

    int status() {
        return status;
    }
}
