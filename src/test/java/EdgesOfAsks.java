/** The edges that the document names for ASKS, THE TRACE, and what is counted, sentence by sentence. */
final class EdgesOfAsks {
    private static final int NONE = NewsShips.NONE, BAD = NewsShips.BAD;
    private static final int KIND = -1000013;

    private final Doc doc;

    EdgesOfAsks(Doc doc) {
        this.doc = doc;
    }

    void test() {
        kinds();
        bodies();
        nearest();
        asking();
        tracing();
        counting();
        status();
    }

    private static void due(String call, int got, int want) {
        Check.due(call, got, want);
    }

    private void kinds() {
        doc.terms("KINDS of SHIPS: 0 SHIP; 1 TRADER, a SHIP; 2 CUTTER, a TRADER; 3 BARGE, a TRADER; 4 COURIER, a SHIP;"
            + " 5 GHOST, a COURIER. By this it is asked.");
        String sorts = "tcbmg";
        int[] are = {0b000011, 0b000111, 0b001011, 0b010001, 0b110001};
        for (int sort = 0; sort < 5; sort++) {
            NewsShips x = Check.with("p2;t0;" + sorts.charAt(sort) + "1;");
            due("kind of " + sorts.charAt(sort), x.kind(1), sort + 1);
            for (int kind = 0; kind <= 5; kind++) {
                due(sorts.charAt(sort) + " as " + kind, x.as(1, kind), (are[sort] >> kind & 1) == 1 ? 1 : KIND);
            }
        }

        doc.promise(28, "The KIND of a SHIP, as told (1 to 5). BAD.");
        NewsShips x = Check.with("p2;w0,1,2;t0;c0;b0;g0;");
        Check.range("ship", 0, 3, v -> x.kind(v));
        due("a trader", x.kind(0), 1);
        due("a ghost", x.kind(3), 5);
        x.sail(3, 0);
        due("at sea, too", x.kind(3), 5);
        due("no ships", Check.with("p2;").kind(0), BAD);

        doc.promise(29, "A SHIP is taken as one of a KIND (0 .. 5): its number. BAD; KIND: it is no such one.");
        Check.range("ship", 0, 3, v -> x.as(v, 0));
        Check.range("kind", 0, 5, v -> x.as(0, v));
        due("its number", x.as(3, 5), 3);
        due("its number", x.as(0, 0), 0);
        due("no such one", x.as(0, 5), KIND);
        due("no such one", x.as(3, 3), KIND);
        due("a BAD ship ahead of KIND", x.as(4, 5), BAD);
        due("no ships", Check.with("p2;").as(0, 0), BAD);
    }

    private static void asked(NewsShips x, int ship, int what, int answer, int... bodies) {
        String call = "ask(" + ship + ", " + what + ")";
        due(call, x.ask(ship, what), answer);
        for (int i = 0; i < bodies.length; i++) {
            due("trace(" + i + ") of " + call, x.trace(i), bodies[i]);
        }
        for (int i = bodies.length; i < 18; i++) {
            due("trace(" + i + ") of " + call, x.trace(i), NONE);
        }
    }

    /** A ship of a sort as number 1, that has 27 pence (a barge 24) and knows three news; a ghost has and knows none. */
    private static NewsShips rich(char sort) {
        NewsShips x = Check.with("p2;w0,1,1;w0,1,2;t0;" + sort + "0;");
        for (int i = 0; i < 3; i++) {
            x.happen(0);
        }
        // By way 1, of 2 days, a cutter and a courier are as fast as a trader by way 0.
        x.sail(1, sort == 'c' || sort == 'm' ? 1 : 0);
        Check.pass(x, x.ship(1, 1));
        return x;
    }

    private void bodies() {
        doc.terms("ASKS of SHIPS, by BODIES, each of which leaves its number in THE TRACE as it begins (the first 16):");
        asked(rich('c'), 1, 0, -(27 + 2 * (1 + 3)), 12, 11, 10, 24, 21, 20);

        doc.terms("0 SIZE: 10 lent to all SHIPS: PENCE.");
        due("pence", rich('t').ship(1, 2), 27);
        due("pence of a barge", rich('b').ship(1, 2), 24);
        asked(rich('m'), 1, 0, 27 - 100, 13, 10);
        asked(Check.with("p2;t0;"), 0, 0, 0, 11, 10, 21, 20);

        doc.terms("11 of TRADERS: what 10 gives, and MARK.");
        asked(rich('t'), 1, 0, 27 + (1 + 3), 11, 10, 21, 20);

        doc.terms("12 of CUTTERS: 0 less what 11 gives.");
        asked(Check.with("p2;c0;"), 0, 0, 0, 12, 11, 10, 24, 21, 20);
        asked(Check.with("p2;c0;c0;"), 1, 0, -2, 12, 11, 10, 24, 21, 20);

        doc.terms("13 of COURIERS: what 10 gives, less 100.");
        asked(Check.with("p2;m0;"), 0, 0, -100, 13, 10);

        doc.terms("14 of GHOSTS: what 13 gives, twice.");
        asked(rich('g'), 1, 0, 2 * (0 - 100), 14, 13, 10);

        doc.terms("1 MARK: 20 lent to all SHIPS: its number.");
        NewsShips numbers = Check.with("p2;t0;t0;t0;t0;");
        for (int s = 0; s < 4; s++) {
            asked(numbers, s, 1, s, 21, 20);
        }

        doc.terms("21 of TRADERS: what 20 gives, and how many NEWS it knows.");
        asked(rich('t'), 1, 1, 1 + 3, 21, 20);
        NewsShips counted = Check.with("p2;t0;");
        for (int news = 0; news <= 4; news++) {
            asked(counted, 0, 1, news, 21, 20);
            counted.happen(0);
        }

        doc.terms("22 of BARGES: what 21 gives, less 1000.");
        asked(rich('b'), 1, 1, 1 + 3 - 1000, 22, 21, 20);

        doc.terms("23 of COURIERS: what 20 gives, less SIZE.");
        asked(rich('m'), 1, 1, 1 - (27 - 100), 23, 20, 13, 10);

        doc.terms("24 of CUTTERS: what 21 gives, twice.");
        asked(rich('c'), 1, 1, 2 * (1 + 3), 24, 21, 20);
    }

    private void nearest() {
        doc.terms("(Of an ask the BODY told for the KIND begins, else that of the nearest KIND that it is, too,"
            + " else the one that is lent; SIZE, MARK within others are asked of the same SHIP anew.)");
        asked(rich('b'), 1, 0, 24 + (1 + 3 - 1000), 11, 10, 22, 21, 20);
        asked(rich('g'), 1, 1, 1 - 2 * (0 - 100), 23, 20, 14, 13, 10);
        asked(rich('c'), 1, 0, -(27 + 2 * (1 + 3)), 12, 11, 10, 24, 21, 20);
    }

    private void asking() {
        doc.promise(30, "An ASK (0, 1) of a SHIP. BAD. THE TRACE is empty ahead of it.");
        NewsShips x = Check.with("p2;t0;c0;b0;m0;");
        Check.range("ship", 0, 3, v -> x.ask(v, 0));
        Check.range("ship", 0, 3, v -> x.ask(v, 1));
        Check.range("what", 0, 1, v -> x.ask(0, v));
        asked(x, 1, 0, -2, 12, 11, 10, 24, 21, 20);
        asked(x, 3, 0, -100, 13, 10);
        asked(x, 0, 1, 0, 21, 20);
        asked(x, 0, 1, 0, 21, 20);
        due("what is refused leaves it", x.ask(0, 2), BAD);
        due("what is refused leaves it", x.trace(0), 21);
        due("no ships", Check.with("p2;").ask(0, 0), BAD);
    }

    private void tracing() {
        doc.promise(31, "Number i of THE TRACE; NONE.");
        NewsShips x = Check.with("p2;c0;");
        for (int i : new int[] {0, 15, 16, -1, Check.LEAST, Check.MOST}) {
            due("empty, trace(" + i + ")", x.trace(i), NONE);
        }
        // No ask leaves more than 6, so the 16 are never full.
        x.ask(0, 0);
        int[] bodies = {12, 11, 10, 24, 21, 20};
        for (int i = 0; i < 6; i++) {
            due("trace(" + i + ")", x.trace(i), bodies[i]);
        }
        for (int i : new int[] {6, 7, 15, 16, 17, -1, -16, Check.LEAST, Check.MOST}) {
            due("trace(" + i + ")", x.trace(i), NONE);
        }
    }

    private void counting() {
        doc.promise(32, "How many: 0 ROWS, 1 PORTS, 2 WAYS, 3 SHIPS, 4 the DAY, 5 NEWS, 6 SHIPS at sea,"
            + " 7 ACTS that can be undone, 8 bytes on the tape. BAD.");
        NewsShips none = new NewsShips();
        Check.range("what", 0, 8, v -> none.count(v));
        counts(none, 0, 0, 0, 0, 0, 0, 0, 0, 0);
        counts(Check.with("p2;"), 0, 2, 0, 0, 0, 0, 0, 0, 0);
        NewsShips x = Check.with("p6;" + "w0,1,9;".repeat(8) + "b0;b0;b0;b0;");
        for (int row = 0; row < 8; row++) {
            x.row(row, 0, 0);
        }
        for (int i = 0; i < 4; i++) {
            x.happen(i);
            x.sail(i, i);
        }
        counts(x, 8, 6, 8, 4, 0, 4, 4, 8, 0);
        x.days(17);
        counts(x, 8, 6, 8, 4, 17, 4, 4, 24, 0);
        x.days(1);
        Check.feed(x, " ".repeat(120));
        counts(x, 8, 6, 8, 4, 18, 4, 0, 24, 120);
        x.drop(0);
        counts(x, 7, 6, 8, 4, 18, 4, 0, 24, 120);
        x.undo();
        counts(x, 7, 6, 8, 4, 17, 4, 4, 23, 120);
        Check.pass(x, 82);
        counts(x, 7, 6, 8, 4, 99, 4, 0, 24, 120);
    }

    private static void counts(NewsShips x, int... want) {
        for (int what = 0; what < want.length; what++) {
            due("count(" + what + ")", x.count(what), want[what]);
        }
    }

    private void status() {
        doc.promise(33, "Of the latest call with a ROW, or as(), that was not BAD, STATE, FULL: the number of its FINDING;"
            + " 0: it had none, or there was none.");
        NewsShips x = new NewsShips();
        due("there was none", x.status(), 0);
        x.row(0, 0, -1);
        due("SIZE", x.status(), 4);
        x.began(0, 0, 0);
        due("STATE leaves it", x.status(), 4);
        x.row(8, 0, 0);
        due("BAD leaves it", x.status(), 4);
        x.set(0, 0, 0);
        due("NULL", x.status(), 1);
        Check.read(x, "p2;w0,1,1;t0;c0;");
        due("a text leaves it", x.status(), 1);
        x.happen(0);
        x.sail(0, 0);
        x.sail(0, 0);
        x.days(1);
        x.days(21);
        x.undo();
        x.image(0);
        x.restore(0);
        x.restore(1);
        x.ask(0, 0);
        x.kind(0);
        x.carried(0, 1, 0);
        x.feed(256);
        x.count(0);
        x.trace(0);
        due("calls without a ROW leave it", x.status(), 1);
        // Each call with a ROW, and as(), behind a finding: it had none.
        fine(x, "row", x.row(0, 0, 4));
        fine(x, "set", x.set(0, 0, 20));
        fine(x, "copy", x.copy(0, 0, 0, 1, 2));
        fine(x, "began", x.began(0, 3, 0));
        fine(x, "followed", x.followed(0, 0, 0, 3, 0));
        fine(x, "as", x.as(0, 1));
        fine(x, "drop", x.drop(0));
        x.row(0, 0, 4);
        x.row(1, 1, 4);
        found(x, "row", x.row(0, 0, -1), 4);
        found(x, "set", x.set(2, 0, 0), 1);
        found(x, "set", x.set(0, 4, 0), 2);
        found(x, "copy", x.copy(0, 0, 2, 0, 1), 1);
        found(x, "copy", x.copy(0, 0, 1, 0, 1), 5);
        found(x, "copy", x.copy(0, 0, 0, 1, 4), 2);
        found(x, "drop", x.drop(2), 1);
        found(x, "began", x.began(2, 0, 0), 1);
        found(x, "began", x.began(0, 3, 1), 2);
        found(x, "followed", x.followed(0, 2, 0, 0, 0), 1);
        found(x, "followed", x.followed(0, 0, 4, 1, 0), 2);
        found(x, "as", x.as(0, 2), 3);
        x.set(0, 0, 9);
        x.as(0, 2);
        int[] bad = {
            x.row(8, 0, 0), x.row(0, 3, 0), x.row(0, 0, 41), x.set(8, 0, 0), x.copy(8, 0, 0, 0, 0), x.drop(8),
            x.began(8, 0, 0), x.began(0, 0, 7), x.began(0, 0, 1), x.followed(9, 0, 0, 0, 0), x.followed(0, 0, 0, 1, 0),
            x.followed(0, 0, 0, 13, 0), x.followed(0, 0, 0, 0, 3), x.as(9, 0), x.as(0, 6),
        };
        for (int i = 0; i < bad.length; i++) {
            due("BAD call " + i, bad[i], BAD);
        }
        due("BAD leaves it", x.status(), 3);
    }

    private static void fine(NewsShips x, String call, int answer) {
        Check.holds(call + " is well", answer >= 0);
        due("status behind " + call, x.status(), 0);
        x.as(0, 5);
        due("found", x.status(), 3);
    }

    private static void found(NewsShips x, String call, int answer, int number) {
        due(call, answer, -1000010 - number);
        due("status behind " + call, x.status(), number);
        x.as(0, 0);
        due("none", x.status(), 0);
    }
}
