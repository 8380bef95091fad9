import java.util.function.ToIntFunction;

/** The terms that hold for all calls: numbers, sets, refusals and their order, and that they change nothing. */
final class EdgesOfTerms {
    private static final int BAD = NewsShips.BAD, STATE = NewsShips.STATE, FULL = NewsShips.FULL;
    private static final int NULL = -1000011, PLACE = -1000012, KIND = -1000013, SIZE = -1000014, STORE = -1000015;
    private static final int LEAST = Check.LEAST, MOST = Check.MOST;
    private static final int[] FAR = {-1, LEAST, MOST};

    private final Doc doc;
    private Probe probe;
    private int status;

    EdgesOfTerms(Doc doc) {
        this.doc = doc;
    }

    void test() {
        numbers();
        sets();
        order();
        findings();
        doc.terms("What is refused, or found, changes nothing but status().");
        refusedByANewObject();
        refusedMidway();
        foundMidway();
        refusedWhenFull();
        refusedTexts();
        manyCalls();
    }

    private static void due(String call, int got, int want) {
        Check.due(call, got, want);
    }

    private void numbers() {
        doc.terms("Numbers go from 0 on.");
        NewsShips x = Check.with("p2;w0,1,1;t0;");
        due("the first row", x.row(0, 0, 2), 2);
        due("the first item", x.set(0, 0, 1), 1);
        due("the first port", x.port(0, 1), 1);
        due("the first way", x.takes(0, 0), 1);
        due("the first ship", x.kind(0), 1);
        due("the first news", x.happen(0), 0);
        due("the first day", x.news(0, 0), 0);
        due("the first image", x.image(0), 1);
        x.ask(0, 1);
        due("the first of the trace", x.trace(0), 21);
        due("the first byte", Check.read(x, "?"), -1000100);
        due("the last row", x.row(7, 0, 1), 1);
        due("no row 8", x.row(8, 0, 1), BAD);
        due("no port 2", x.port(2, 0), BAD);
        due("no way 1", x.takes(0, 1), BAD);
        due("no ship 1", x.kind(1), BAD);
        due("no news 1", x.news(1, 0), BAD);
    }

    private void sets() {
        doc.terms("Sets are bits.");
        NewsShips x = Check.with("p6;w0,5,1;t0;t0;t0;t0;");
        due("no news", x.port(0, 0), 0);
        for (int i = 0; i < 4; i++) {
            x.happen(0);
        }
        due("all news of a port", x.port(0, 0), 15);
        due("no news of a port", x.port(1, 0), 0);
        due("all news of a ship", x.ship(3, 3), 15);
        due("all ships", x.port(0, 1), 15);
        due("no ships", x.port(5, 1), 0);
        x.row(0, 2, 2);
        due("all ports", x.began(0, 0, 0), 63);
        due("one port", x.began(0, 0, 1), 1);
        due("all news in the end", x.followed(0, 0, 0, 1, 2), 15);
        x.sail(2, 0);
        due("all ships but one", x.port(0, 1), 11);
    }

    private void order() {
        doc.terms("Refusals are answers, the first of these that fits, but as told:"
            + " BAD (a number is not as told; there is no such thing), STATE (as told), FULL (as told),"
            + " then FINDINGS, of several the first in time:");
        NewsShips none = new NewsShips();
        due("BAD ahead of STATE: image", none.image(2), BAD);
        due("BAD ahead of STATE: restore", none.restore(2), BAD);
        due("as told, STATE ahead of BAD: days", none.days(0), STATE);
        due("as told, STATE ahead of BAD: began", none.began(8, 0, 7), STATE);
        NewsShips x = Probe.full();
        due("BAD ahead of FULL: feed", x.feed(256), BAD);
        due("FULL: feed", x.feed(255), FULL);
        due("BAD ahead of FULL: happen", x.happen(2), BAD);
        due("FULL: happen", x.happen(1), FULL);
        due("BAD ahead of FULL: days", x.days(21), BAD);
        due("FULL: days", x.days(20), FULL);
        due("BAD ahead of STATE: sail", x.sail(0, 1), BAD);
        due("STATE: sail", x.sail(0, 0), STATE);
        NewsShips y = Probe.midway();
        due("BAD ahead of SIZE: row", y.row(0, 3, -1), BAD);
        due("SIZE: row", y.row(0, 2, -1), SIZE);
        due("BAD ahead of NULL: set", y.set(8, 99, 0), BAD);
        due("NULL ahead of PLACE: set", y.set(7, 99, 0), NULL);
        due("PLACE: set", y.set(0, 99, 0), PLACE);
        due("BAD ahead of NULL: copy", y.copy(7, 0, 8, 0, 1), BAD);
        due("NULL ahead of PLACE: copy", y.copy(7, 99, 0, 99, 1), NULL);
        due("STORE ahead of PLACE: copy", y.copy(0, 99, 1, 99, 1), STORE);
        due("PLACE: copy", y.copy(0, 99, 0, 99, 1), PLACE);
        due("BAD ahead of NULL: began", y.began(7, 99, 7), BAD);
        due("NULL ahead of PLACE: began", y.began(7, 99, 6), NULL);
        due("PLACE ahead of a pair that is none: began", y.began(0, 2, 6), PLACE);
        due("BAD ahead of NULL: followed", y.followed(4, 7, 99, 1, 0), BAD);
        due("NULL ahead of PLACE: followed", y.followed(0, 7, 99, 1, 0), NULL);
        due("PLACE ahead of an item that is no order: followed", y.followed(0, 2, 1, 5, 0), PLACE);
        due("BAD ahead of KIND: as", y.as(4, 5), BAD);
        due("BAD ahead of KIND: as", y.as(0, 6), BAD);
        due("KIND: as", y.as(0, 5), KIND);
    }

    private void findings() {
        doc.terms("-1000010 less 1 NULL (a ROW that is missing), 2 PLACE (no such place of a ROW),"
            + " 3 KIND (a SHIP that is not that), 4 SIZE (fewer than none), 5 STORE (ROWS of two LANES).");
        NewsShips x = Check.with("p2;t0;");
        x.row(1, 1, 1);
        x.row(2, 2, 1);
        due("NULL", x.drop(0), -1000010 - 1);
        due("NULL", x.status(), 1);
        due("PLACE", x.set(1, 1, 0), -1000010 - 2);
        due("PLACE", x.status(), 2);
        due("KIND", x.as(0, 2), -1000010 - 3);
        due("KIND", x.status(), 3);
        due("SIZE", x.row(0, 0, -1), -1000010 - 4);
        due("SIZE", x.status(), 4);
        due("STORE", x.copy(1, 0, 2, 0, 1), -1000010 - 5);
        due("STORE", x.status(), 5);
    }

    private void bad(String call, ToIntFunction<NewsShips> made) {
        probe.unchanged(call, BAD, status, made);
    }

    private void refused(String call, int want, ToIntFunction<NewsShips> made) {
        probe.unchanged(call, want, status, made);
    }

    private void found(String call, int number, ToIntFunction<NewsShips> made) {
        probe.unchanged(call, -1000010 - number, number, made);
    }

    private void refusedByANewObject() {
        probe = new Probe(NewsShips::new);
        status = 0;
        refused("no league: days(1)", STATE, x -> x.days(1));
        refused("no league: days(0)", STATE, x -> x.days(0));
        refused("no league: undo()", STATE, x -> x.undo());
        refused("no league: began", STATE, x -> x.began(0, 0, 0));
        refused("no league: image", STATE, x -> x.image(0));
        refused("no league: restore", STATE, x -> x.restore(1));
        bad("no league: happen", x -> x.happen(0));
        bad("no league: sail", x -> x.sail(0, 0));
        bad("no league: ask", x -> x.ask(0, 0));
        bad("no league: as", x -> x.as(0, 0));
        bad("no league: followed", x -> x.followed(0, 0, 0, 0, 0));
        found("no rows: set", 1, x -> x.set(0, 0, 1));
        found("no rows: copy", 1, x -> x.copy(0, 0, 1, 0, 1));
        found("no rows: drop", 1, x -> x.drop(7));
        found("no rows: row", 4, x -> x.row(7, 0, -1));
    }

    private void refusedMidway() {
        probe = new Probe(Probe::midway);
        status = 5;
        badRows(8);
        for (int v : new int[] {-1, LEAST, MOST, 256}) {
            bad("feed(" + v + ")", x -> x.feed(v));
        }
        badLeague(4, 4, 4, 2, 3);
        refused("sail at sea", STATE, x -> x.sail(2, 3));
        refused("sail at sea", STATE, x -> x.sail(1, 1));
        refused("sail a way with no end there", STATE, x -> x.sail(0, 2));
        refused("sail a way with no end there", STATE, x -> x.sail(3, 0));
        bad("began: a pair that is none", x -> x.began(1, 0, 1));
        bad("followed: an item that is no order", x -> x.followed(0, 2, 0, 5, 0));
    }

    /** Each number of each call with a ROW, on the wrong side of each edge. */
    private void badRows(int rows) {
        for (int v : new int[] {-1, LEAST, MOST, rows}) {
            bad("row(" + v + ", 0, 1)", x -> x.row(v, 0, 1));
            bad("set(" + v + ", 0, 1)", x -> x.set(v, 0, 1));
            bad("copy(" + v + ", 0, 0, 0, 1)", x -> x.copy(v, 0, 0, 0, 1));
            bad("copy(0, 0, " + v + ", 0, 1)", x -> x.copy(0, 0, v, 0, 1));
            bad("drop(" + v + ")", x -> x.drop(v));
            bad("began(" + v + ", 0, 1)", x -> x.began(v, 0, 1));
            bad("followed(0, " + v + ", 0, 1, 0)", x -> x.followed(0, v, 0, 1, 0));
        }
        for (int v : new int[] {-1, LEAST, MOST, 3}) {
            bad("row(0, " + v + ", 1)", x -> x.row(0, v, 1));
            bad("followed(0, 0, 0, 1, " + v + ")", x -> x.followed(0, 0, 0, 1, v));
        }
        for (int v : new int[] {-1, LEAST, MOST, 13}) {
            bad("followed(0, 0, 0, " + v + ", 0)", x -> x.followed(0, 0, 0, v, 0));
        }
        for (int v : new int[] {-1, LEAST, MOST, 7}) {
            bad("began(0, 0, " + v + ")", x -> x.began(0, 0, v));
        }
        bad("row(0, 0, 41)", x -> x.row(0, 0, 41));
        bad("row(0, 0, MOST)", x -> x.row(0, 0, MOST));
    }

    /** Each number of each call that has to do with a league, on the wrong side of each edge. */
    private void badLeague(int ports, int ways, int ships, int news, int day) {
        for (int v : new int[] {-1, LEAST, MOST, ports}) {
            bad("happen(" + v + ")", x -> x.happen(v));
            bad("port(" + v + ", 0)", x -> x.port(v, 0));
            bad("knows(" + v + ", 0)", x -> x.knows(v, 0));
            bad("ahead(" + v + ", 0)", x -> x.ahead(v, 0));
            bad("carried(0, " + v + ", 0)", x -> x.carried(0, v, 0));
            bad("overtaken(0, " + v + ", 0)", x -> x.overtaken(0, v, 0));
            bad("odds(" + v + ", ..)", x -> x.odds(v, 0, 120, 5, 0));
        }
        for (int v : new int[] {-1, LEAST, MOST, ways}) {
            bad("sail(0, " + v + ")", x -> x.sail(0, v));
            bad("takes(0, " + v + ")", x -> x.takes(0, v));
        }
        for (int v : new int[] {-1, LEAST, MOST, ships}) {
            bad("sail(" + v + ", 0)", x -> x.sail(v, 0));
            bad("ship(" + v + ", 0)", x -> x.ship(v, 0));
            bad("takes(" + v + ", 0)", x -> x.takes(v, 0));
            bad("carried(" + v + ", 0, 0)", x -> x.carried(v, 0, 0));
            bad("fame(" + v + ", ..)", x -> x.fame(v, 0, 0, 0));
            bad("overtaken(" + v + ", 0, 0)", x -> x.overtaken(v, 0, 0));
            bad("followed(" + v + ", ..)", x -> x.followed(v, 0, 0, 1, 0));
            bad("kind(" + v + ")", x -> x.kind(v));
            bad("as(" + v + ", 0)", x -> x.as(v, 0));
            bad("ask(" + v + ", 0)", x -> x.ask(v, 0));
        }
        for (int v : new int[] {-1, LEAST, MOST, news}) {
            bad("news(" + v + ", 0)", x -> x.news(v, 0));
            bad("knows(0, " + v + ")", x -> x.knows(0, v));
            bad("ahead(0, " + v + ")", x -> x.ahead(0, v));
            bad("carried(0, 0, " + v + ")", x -> x.carried(0, 0, v));
            bad("fame(0, " + v + ", ..)", x -> x.fame(0, v, 0, 0));
            bad("overtaken(0, 0, " + v + ")", x -> x.overtaken(0, 0, v));
            bad("sure(" + v + ", 0)", x -> x.sure(v, 0));
            bad("odds(0, " + v + ", ..)", x -> x.odds(0, v, 120, 5, 0));
        }
        badOthers(day);
    }

    private void badOthers(int day) {
        for (int v : FAR) {
            badWhat(v);
            bad("fame(0, 0, " + v + ", 0)", x -> x.fame(0, 0, v, 0));
            bad("sure(0, " + v + ")", x -> x.sure(0, v));
            bad("odds(.., c = " + v + ")", x -> x.odds(0, 0, 120, v, 0));
            bad("odds(.., day = " + v + ")", x -> x.odds(0, 0, v, 5, 0));
            bad("days(" + v + ")", x -> x.days(v));
            bad("count(" + v + ")", x -> x.count(v));
            bad("as(0, " + v + ")", x -> x.as(0, v));
        }
        badWhat(4);
        bad("port(0, 2)", x -> x.port(0, 2));
        bad("news(0, 2)", x -> x.news(0, 2));
        bad("fame(.., what = 2)", x -> x.fame(0, 0, 0, 2));
        bad("odds(.., what = 2)", x -> x.odds(0, 0, 120, 5, 2));
        bad("ask(0, 2)", x -> x.ask(0, 2));
        bad("image(2)", x -> x.image(2));
        bad("restore(2)", x -> x.restore(2));
        bad("fame(0, 0, 31, 0)", x -> x.fame(0, 0, 31, 0));
        bad("sure(0, 4)", x -> x.sure(0, 4));
        bad("odds(.., c = 11)", x -> x.odds(0, 0, 120, 11, 0));
        bad("odds(.., day = 151)", x -> x.odds(0, 0, 151, 5, 0));
        bad("odds of the day before", x -> x.odds(0, 0, day - 1, 5, 0));
        bad("days(0)", x -> x.days(0));
        bad("days(21)", x -> x.days(21));
        bad("count(9)", x -> x.count(9));
        bad("as(0, 6)", x -> x.as(0, 6));
        probe.unchanged("trace(-1)", NewsShips.NONE, status, x -> x.trace(-1));
        probe.unchanged("trace(16)", NewsShips.NONE, status, x -> x.trace(16));
    }

    private void badWhat(int v) {
        bad("ship(0, " + v + ")", x -> x.ship(0, v));
        bad("port(0, " + v + ")", x -> x.port(0, v));
        bad("news(0, " + v + ")", x -> x.news(0, v));
        bad("fame(.., what = " + v + ")", x -> x.fame(0, 0, 0, v));
        bad("odds(.., what = " + v + ")", x -> x.odds(0, 0, 120, 5, v));
        bad("ask(0, " + v + ")", x -> x.ask(0, v));
        bad("image(" + v + ")", x -> x.image(v));
        bad("restore(" + v + ")", x -> x.restore(v));
    }

    private void foundMidway() {
        probe = new Probe(Probe::midway);
        found("row(0, 2, -1)", 4, x -> x.row(0, 2, -1));
        found("row(0, 2, LEAST)", 4, x -> x.row(0, 2, LEAST));
        found("row(7, 2, -1)", 4, x -> x.row(7, 2, -1));
        found("set(7, 0, 1)", 1, x -> x.set(7, 0, 1));
        found("drop(7)", 1, x -> x.drop(7));
        found("copy of a missing row", 1, x -> x.copy(7, 0, 0, 0, 1));
        found("copy to a missing row", 1, x -> x.copy(0, 0, 7, 0, 1));
        found("copy from lane to lane", 5, x -> x.copy(0, 0, 1, 0, 2));
        found("began by a missing row", 1, x -> x.began(7, 0, 0));
        found("followed by a missing row", 1, x -> x.followed(0, 7, 0, 0, 0));
        found("as(0, 2)", 3, x -> x.as(0, 2));
        found("as(3, 1)", 3, x -> x.as(3, 1));
        for (int v : new int[] {-1, LEAST, MOST, 6}) {
            found("set(0, " + v + ", 1)", 2, x -> x.set(0, v, 1));
            found("copy(0, " + v + ", 0, 0, 1)", 2, x -> x.copy(0, v, 0, 0, 1));
            found("copy(0, 0, 0, " + v + ", 1)", 2, x -> x.copy(0, 0, 0, v, 1));
            found("copy(0, 1, 0, 2, " + v + ")", 2, x -> x.copy(0, 1, 0, 2, v));
            found("began(0, " + v + ", 1)", 2, x -> x.began(0, v, 1));
            found("followed(0, 0, " + v + ", 1, 0)", 2, x -> x.followed(0, 0, v, 1, 0));
        }
    }

    private void refusedWhenFull() {
        probe = new Probe(Probe::full);
        status = 2;
        badRows(8);
        badLeague(2, 1, 2, 4, 99);
        refused("a byte more", FULL, x -> x.feed('p'));
        refused("news more", FULL, x -> x.happen(0));
        refused("a day more", FULL, x -> x.days(1));
        refused("days more", FULL, x -> x.days(20));
        refused("sail at sea", STATE, x -> x.sail(0, 0));
        refused("sail at sea", STATE, x -> x.sail(1, 0));
        bad("feed(256)", x -> x.feed(256));
        found("set(7, 40, 1)", 2, x -> x.set(7, 40, 1));
        found("copy beyond the end", 2, x -> x.copy(0, 1, 3, 0, 40));
        found("copy from lane to lane", 5, x -> x.copy(0, 0, 1, 0, 40));
        found("began beyond the end", 2, x -> x.began(0, 29, 6));
        found("followed beyond the end", 2, x -> x.followed(0, 0, 29, 12, 0));
    }

    /** A text that has a fault changes nothing but the tape and fault(). */
    private void refusedTexts() {
        probe = new Probe(() -> emptied(Probe.midway(), "p9;"));
        status = 5;
        for (String text : new String[] {"", "p", "p2", "p7;", "p3;w0,0,1;", "p6;t0;t0;t0;t0;t0;", "p2;?"}) {
            int number = text.equals("p7;") || text.equals("p3;w0,0,1;") ? 2 : text.startsWith("p6") ? 3 : 1;
            probe.unchanged("the text " + text, number, status, x -> {
                Check.read(x, text);
                int fault = x.fault();
                emptied(x, "p9;");
                return fault;
            });
        }
    }

    /** With an empty tape, and the fault of a text as the latest. */
    private static NewsShips emptied(NewsShips x, String text) {
        x.league();
        Check.read(x, text);
        return x;
    }

    private static void manyCalls() {
        Check.about("an object is used for at most 512 calls");
        NewsShips x = new NewsShips();
        for (int call = 1; call <= 511; call++) {
            x.row(call % 8, call % 3, call % 41);
        }
        due("the 512th", x.count(0), 8);
    }
}
