import java.util.ArrayList;
import java.util.List;
import java.util.Random;

/** Runs of random calls, held against the model; the seeds are fixed, so a run can be had again. */
public final class ModelTest {
    private static final int RUNS = 3000;
    private static final String[] PLAIN = {
        "row", "set", "set", "copy", "drop", "happen", "happen", "sail", "sail", "sail", "sail", "days", "days",
        "days", "undo", "ship", "port", "news", "knows", "takes", "ahead", "ahead", "carried", "carried",
        "fame", "fame", "overtaken", "overtaken", "sure", "sure", "began", "odds", "odds", "followed",
        "followed", "image", "restore", "kind", "as", "ask", "trace", "count", "status", "fault",
        "text", "orders", "pairs",
    };
    private static final int[] WILD = {
        Integer.MIN_VALUE, Integer.MIN_VALUE + 1, -1000000, -41, -2, -1, 7, 8, 9, 13, 21, 30, 31, 40, 41, 99, 100,
        119, 120, 121, 150, 151, 255, 256, 1 << 16, 1 << 30, Integer.MAX_VALUE - 1, Integer.MAX_VALUE,
    };

    private final Random random;
    private final NewsShips real = new NewsShips();
    private final Model model = new Model();
    private final List<String> told = new ArrayList<>();
    private boolean wrong;

    private ModelTest(int seed) {
        random = new Random(seed);
    }

    public static void main(String[] args) {
        for (int seed = 1; seed <= RUNS && !Check.anyWrong(); seed++) {
            ModelTest run = new ModelTest(seed);
            run.go();
            Check.holds("run of seed " + seed, !run.wrong);
        }
        Check.end("ModelTest");
    }

    private void go() {
        if (random.nextInt(8) != 0) {
            feed(league(random.nextInt(10) == 0));
            call("league");
        }
        // Some runs are late ones, where days end and what is foretold comes too late.
        int late = random.nextInt(3) == 0 ? random.nextInt(5) : 0;
        for (int i = 0; i < late; i++) {
            call("happen", random.nextInt(6));
            call("days", 15 + random.nextInt(6));
        }
        for (int i = 0; i < 150 && !wrong; i++) {
            step(PLAIN[random.nextInt(PLAIN.length)]);
        }
        for (int what = 0; what < 9 && !wrong; what++) {
            call("count", what);
        }
        for (int s = 0; s < 4 && !wrong; s++) {
            for (int what = 0; what < 4; what++) {
                call("ship", s, what);
            }
        }
        for (int p = 0; p < 6 && !wrong; p++) {
            for (int n = 0; n < 4; n++) {
                call("knows", p, n);
            }
        }
    }

    private void step(String name) {
        switch (name) {
            case "text":
                if (random.nextInt(6) == 0) {
                    feed(random.nextInt(3) == 0 ? league(false) : spoilt(league(true)));
                    call("league");
                }
                break;
            case "orders":
                items(1, 0, 1, 2, 3, 4, 5, 6, 7, 10, 11, 12, 13, 20);
                break;
            case "pairs":
                pairs();
                break;
            case "restore":
            case "undo":
                // Rarer than others, or runs would hardly get on.
                if (random.nextInt(3) == 0) {
                    call(name, arguments(name));
                }
                break;
            default:
                call(name, arguments(name));
        }
    }

    private void items(int row, int... from) {
        call("row", row, random.nextInt(3), 12);
        for (int i = 0; i < 12; i++) {
            call("set", row, i, from[random.nextInt(from.length)]);
        }
    }

    /** Logs that can be true, but for some. */
    private void pairs() {
        if (model.now == null) {
            return;
        }
        Integer[] takes = model.now.signals()[random.nextInt(model.now.ports)];
        int day = random.nextInt(20);
        call("row", 0, random.nextInt(3), 12);
        for (int i = 0; i < 6; i++) {
            int port = random.nextInt(model.now.ports);
            int due = takes[port] == null ? random.nextInt(99) : day + takes[port];
            call("set", 0, 2 * i, port);
            call("set", 0, 2 * i + 1, random.nextInt(12) == 0 ? random.nextInt(100) : due);
        }
    }

    private String league(boolean wide) {
        int ports = 2 + random.nextInt(5);
        StringBuilder text = new StringBuilder("p" + ports + ";");
        int ways = random.nextInt(wide ? 10 : 9);
        if (random.nextInt(3) > 0) {
            ways = Math.max(ways, Math.min(8, ports + random.nextInt(3)));
        }
        for (int i = 0; i < ways; i++) {
            int a = i < ports - 1 ? i : random.nextInt(ports);
            int b = i < ports - 1 && random.nextInt(4) > 0 ? i + 1 : (a + 1 + random.nextInt(ports - 1)) % ports;
            text.append("w" + a + "," + b + "," + (1 + random.nextInt(9)) + ";");
        }
        int ships = random.nextInt(wide ? 6 : 5);
        for (int i = 0; i < ships; i++) {
            text.append("tcbmg".charAt(random.nextInt(5))).append(random.nextInt(ports)).append(';');
        }
        return text.toString();
    }

    private String spoilt(String text) {
        StringBuilder s = new StringBuilder(text);
        String signs = "pwtcbmgx,;0123456789 A";
        int times = random.nextInt(3);
        for (int i = 0; i < times && s.length() > 0; i++) {
            int at = random.nextInt(s.length());
            char sign = random.nextInt(9) == 0 ? (char) random.nextInt(256) : signs.charAt(random.nextInt(signs.length()));
            switch (random.nextInt(4)) {
                case 0: s.deleteCharAt(at); break;
                case 1: s.insert(at, sign); break;
                case 2: s.setCharAt(at, sign); break;
                default: s.setLength(at);
            }
        }
        return s.toString();
    }

    private void feed(String text) {
        for (int i = 0; i < text.length(); i++) {
            call("feed", text.charAt(i));
        }
    }

    private int[] arguments(String name) {
        int[] a;
        switch (name) {
            case "row": a = some(8, 3, 41); break;
            case "set": a = new int[] {random.nextInt(3), random.nextInt(13), random.nextInt(random.nextBoolean() ? 22 : 200000)}; break;
            case "copy": a = some(3, 6, 3, 6, 8); break;
            case "drop": a = some(8); break;
            case "happen": a = some(6); break;
            case "sail": a = some(4, 8); break;
            case "days": a = new int[] {1 + random.nextInt(random.nextInt(4) == 0 ? 20 : 4)}; break;
            case "ship": a = some(4, 4); break;
            case "port": a = some(6, 2); break;
            case "news": a = some(4, 2); break;
            case "knows": case "ahead": a = some(6, 4); break;
            case "takes": a = some(4, 8); break;
            case "carried": case "overtaken": a = some(4, 6, 4); break;
            case "fame": a = some(4, 4, 31, 2); break;
            case "sure": a = some(4, 4); break;
            case "began": a = some(2, 3, 7); break;
            case "odds": a = new int[] {random.nextInt(6), random.nextInt(4), random.nextInt(151), random.nextInt(11), random.nextInt(2)}; break;
            case "followed": a = some(4, 2, 3, 13, 3); break;
            case "image": case "restore": a = some(2); break;
            case "kind": a = some(4); break;
            case "as": a = some(4, 6); break;
            case "ask": a = some(4, 2); break;
            case "trace": a = some(8); break;
            case "count": a = some(9); break;
            default: a = new int[0];
        }
        if (model.now != null && random.nextInt(4) > 0) {
            tame(name, a);
        }
        if (a.length > 0 && random.nextInt(12) == 0) {
            a[random.nextInt(a.length)] = WILD[random.nextInt(WILD.length)];
        }
        return a;
    }

    /** Ships, ports, news that there are, so that most calls are not refused. */
    private void tame(String name, int[] a) {
        int ships = Math.max(1, model.now.ships.size());
        int ports = model.now.ports;
        int news = Math.max(1, model.now.news.size());
        switch (name) {
            case "happen": a[0] %= ports; break;
            case "ship": case "takes": case "kind": case "as": case "ask": case "followed": a[0] %= ships; break;
            case "sail":
                a[0] %= ships;
                a[1] %= Math.max(1, model.now.ways.size());
                break;
            case "port": a[0] %= ports; break;
            case "news": case "sure": a[0] %= news; break;
            case "knows": case "ahead":
                a[0] %= ports;
                a[1] %= news;
                break;
            case "carried": case "overtaken":
                a[0] %= ships;
                a[1] %= ports;
                a[2] %= news;
                break;
            case "fame":
                a[0] %= ships;
                a[1] %= news;
                break;
            case "odds":
                a[0] %= ports;
                a[1] %= news;
                a[2] = Math.min(150, model.now.day + a[2] % 40);
                break;
            default:
        }
    }

    private int[] some(int... bounds) {
        int[] all = new int[bounds.length];
        for (int i = 0; i < all.length; i++) {
            all[i] = random.nextInt(bounds[i]);
        }
        return all;
    }

    private void call(String name, int... a) {
        if (wrong || told.size() >= 500) {
            return;
        }
        int want = ModelCalls.ofModel(model, name, a);
        int got = ModelCalls.ofReal(real, name, a);
        told.add(name + java.util.Arrays.toString(a) + " = " + want);
        if (got != want || real.status() != model.status()) {
            wrong = true;
            for (String line : told) {
                System.out.println(line);
            }
            System.out.println("but it answered " + got + " with status " + real.status() + ", due is " + model.status());
        }
    }
}
