import java.util.ArrayList;
import java.util.List;
import java.util.function.Supplier;
import java.util.function.ToIntFunction;

/**
 * All that an object tells: what can be asked, then what lies on the tape, in rows, images and acts that can be undone.
 * To look changes the object, so for each part one more is made in the same way; none has more than 512 calls.
 */
final class Probe {
    private static final String LEAGUE = "p4;w0,1,2;w1,2,3;w2,3,1;w0,3,9;t0;c1;b0;g3;";

    private final Supplier<NewsShips> start;
    private final List<Integer> before;

    Probe(Supplier<NewsShips> start) {
        this.start = start;
        before = all(x -> 0);
    }

    /** Something of everything, and a finding (STORE) that is the latest. */
    static NewsShips midway() {
        NewsShips x = Check.with(LEAGUE);
        x.image(0);
        x.happen(0);
        x.sail(0, 0);
        x.days(2);
        x.image(1);
        x.happen(2);
        x.sail(1, 1);
        x.sail(2, 3);
        x.days(1);
        Check.fillAs(x, 0, 0, 0, 1, 10, 20, 3, 2);
        Check.fillAs(x, 1, 1, 20, 0, 0, 11, 1, 20);
        Check.fillAs(x, 2, 2, 3, 18, 2, 15, 99);
        Check.read(x, "p9;");
        x.ask(1, 0);
        x.copy(0, 0, 1, 0, 1);
        Check.feed(x, "p2;w0,1,7;t");
        return x;
    }

    /** Nothing more can come: bytes, news, acts, rows, days; both ships are at sea. */
    static NewsShips full() {
        NewsShips x = Check.with("p2;w0,1,9;t0;b0;");
        Check.pass(x, 97);
        for (int i = 0; i < 4; i++) {
            x.happen(i % 2);
        }
        x.sail(0, 0);
        x.sail(1, 0);
        x.days(2);
        x.image(0);
        x.image(1);
        for (int row = 0; row < 8; row++) {
            x.row(row, row % 3, 40);
            x.set(row, row, 20);
        }
        x.ask(1, 1);
        x.set(0, 40, 0);
        Check.feed(x, "p2;w0,1,1;" + "w1,0,2;".repeat(15) + "t0;p2");
        return x;
    }

    /** A call gives what is due, leaves the status that is due, and changes nothing else. */
    void unchanged(String name, int want, int status, ToIntFunction<NewsShips> call) {
        NewsShips x = start.get();
        Check.due(name, call.applyAsInt(x), want);
        Check.due("status behind " + name, x.status(), status);
        List<Integer> after = all(call);
        Check.holds(name + " changes nothing: " + before + " and then " + after, before.equals(after));
    }

    private List<Integer> all(ToIntFunction<NewsShips> call) {
        List<Integer> told = new ArrayList<>();
        asked(made(call), told);
        for (int row = 0; row < 8; row++) {
            row(made(call), row, told);
        }
        acts(made(call), told);
        image(made(call), 0, told);
        image(made(call), 1, told);
        tape(made(call), told);
        return told;
    }

    private NewsShips made(ToIntFunction<NewsShips> call) {
        NewsShips x = start.get();
        call.applyAsInt(x);
        return x;
    }

    private static void asked(NewsShips x, List<Integer> told) {
        told.add(x.fault());
        for (int i = 0; i < 9; i++) {
            told.add(x.count(i));
            told.add(x.trace(i));
        }
        for (int s = 0; s < x.count(3); s++) {
            told.add(x.kind(s));
            for (int what = 0; what < 4; what++) {
                told.add(x.ship(s, what));
            }
            for (int way = 0; way < x.count(2); way++) {
                told.add(x.takes(s, way));
            }
        }
        for (int p = 0; p < x.count(1); p++) {
            told.add(x.port(p, 1));
            for (int n = 0; n < x.count(5); n++) {
                told.add(x.knows(p, n));
                told.add(x.ahead(p, n));
            }
        }
        for (int n = 0; n < x.count(5); n++) {
            told.add(x.news(n, 0));
            told.add(x.news(n, 1));
        }
    }

    /** Items are told by where they bring a ship, as orders, and by what becomes of a log of them. */
    private static void row(NewsShips x, int row, List<Integer> told) {
        for (int i = 0; i < 40; i++) {
            told.add(x.followed(0, row, i, 1, 0));
            told.add(x.followed(0, row, i, 1, 1));
            told.add(x.began(row, i, 1));
        }
        told.add(x.set(row, 0, 70000));
        told.add(x.drop(row));
    }

    private static void acts(NewsShips x, List<Integer> told) {
        for (int i = 0; i < 25; i++) {
            told.add(x.undo());
            for (int what = 4; what < 8; what++) {
                told.add(x.count(what));
            }
            told.add(x.port(0, 1));
            told.add(x.ship(0, 1));
        }
    }

    private static void image(NewsShips x, int k, List<Integer> told) {
        told.add(x.restore(k));
        asked(x, told);
    }

    private static void tape(NewsShips x, List<Integer> told) {
        if (x.count(8) < 119) {
            x.feed('0');
            x.feed(';');
        }
        told.add(x.league());
        told.add(x.fault());
        asked(x, told);
    }
}
