/** The edges that the document names for what is FORETOLD, sentence by sentence. */
final class EdgesOfForetold {
    private static final int NONE = NewsShips.NONE, BAD = NewsShips.BAD, STATE = NewsShips.STATE;
    private static final int NULL = -1000011, PLACE = -1000012;
    private static final int LEAST = Check.LEAST, MOST = Check.MOST;

    private final Doc doc;

    EdgesOfForetold(Doc doc) {
        this.doc = doc;
    }

    void test() {
        nothingChanges();
        ahead();
        without();
        whereAShipCanBe();
        carried();
        fame();
        fameAhead();
        overtaken();
        sureness();
        began();
        beganRefused();
        odds();
        oddsRefused();
        images();
    }

    private static void due(String call, int got, int want) {
        Check.due(call, got, want);
    }

    private void nothingChanges() {
        doc.terms("FORETOLD (nothing changes).");
        Probe midway = new Probe(Probe::midway);
        midway.unchanged("all that is foretold", 0, 5, x -> {
            for (int s = 0; s < 4; s++) {
                x.carried(s, 3, 0);
                x.overtaken(s, 3, 0);
                x.fame(s, 1, 30, 1);
                x.ahead(s, 1);
                x.odds(s, 0, 150, 3, 0);
                x.sure(1, s);
            }
            return 0;
        });
        midway.unchanged("orders", 5, 0, x -> x.followed(1, 1, 0, 6, 0));
        midway.unchanged("logs", 7, 0, x -> x.began(2, 0, 2));
    }

    private void ahead() {
        doc.terms("AHEAD: the DAY from which a PORT knows NEWS, if no SHIP SAILS any more (those at sea come in):"
            + " that may be gone already; NONE: not till DAY 150.");
        NewsShips x = Check.with("p4;w0,1,4;w1,2,5;t0;c0;");
        x.happen(0);
        due("this day", x.ahead(0, 0), 0);
        due("no ship at sea: by signals", x.ahead(1, 0), 12);
        due("by signals", x.ahead(2, 0), 27);
        due("where no way goes", x.ahead(3, 0), NONE);
        x.sail(0, 0);
        due("one at sea comes in", x.ahead(1, 0), 4);
        due("and from there by signals, no ship sails", x.ahead(2, 0), 19);
        x.sail(1, 0);
        due("of two the earlier", x.ahead(1, 0), 2);
        x.days(20);
        due("gone already", x.ahead(1, 0), 2);
        due("gone already", x.ahead(2, 0), 17);
        due("gone already", x.ahead(0, 0), 0);
        for (int day = 95; day <= 98; day++) {
            NewsShips far = Check.on(day, "p3;w0,1,9;w1,2,9;");
            far.happen(0);
            due("by signals on " + (day + 27), far.ahead(1, 0), day + 27);
            due("by signals on " + (day + 54), far.ahead(2, 0), day <= 96 ? day + 54 : NONE);
        }
        String line = "p4;w0,1,7;w1,2,9;w2,3,6;m0;t0;";
        for (int ship = 0; ship < 2; ship++) {
            NewsShips far = Check.on(99, line);
            far.happen(0);
            far.sail(ship, 0);
            due("by a ship, on 150 or on 151", far.ahead(3, 0), ship == 0 ? 150 : NONE);
            due("by a ship", far.ahead(1, 0), ship == 0 ? 105 : 106);
        }

        doc.promise(18, "AHEAD; NONE. BAD.");
        Check.range("port", 0, 3, v -> x.ahead(v, 0));
        Check.range("news", 0, 0, v -> x.ahead(0, v));
        x.happen(1);
        x.happen(1);
        x.happen(1);
        Check.range("news", 0, 3, v -> x.ahead(0, v));
        due("no news", Check.with("p2;").ahead(0, 0), BAD);
        due("NONE", x.ahead(3, 3), NONE);
    }

    private void without() {
        doc.terms("WITHOUT a SHIP: AHEAD, if that one tells nothing any more.");
        NewsShips x = Check.with("p3;w0,1,4;w0,1,5;t0;t0;t1;");
        x.happen(0);
        x.sail(0, 0);
        x.sail(1, 1);
        due("ahead", x.ahead(1, 0), 4);
        due("without ship 0, ship 1 on day 5", x.overtaken(0, 1, 0), 1);
        due("without ship 1, ship 0 on day 4: not ahead", x.overtaken(1, 1, 0), NONE);
        due("without one that lies there", x.overtaken(2, 1, 0), 4);
        NewsShips one = Check.with("p2;w0,1,4;t0;");
        one.happen(0);
        one.sail(0, 0);
        due("without the only one, by signals on 12", one.overtaken(0, 1, 0), 8);
        one.days(4);
        due("what it told before stays told", one.overtaken(0, 1, 0), NONE);
    }

    private void whereAShipCanBe() {
        doc.terms("A SHIP can be in PORTS from now on (at sea: when it is there), SAILING and staying as it likes,"
            + " all others SAILING no more.");
        NewsShips x = Check.with("p4;w0,1,3;w1,2,2;t1;t0;");
        x.happen(0);
        due("where it is, from now on", x.overtaken(0, 1, 0), 9);
        due("where it can be in 2 days", x.overtaken(0, 2, 0), 13);
        due("where it can't be", x.overtaken(0, 3, 0), NONE);
        x.days(1);
        due("from now on, not before", x.overtaken(0, 1, 0), 8);
        x.sail(0, 0);
        due("at sea: there on day 4, back on day 7", x.overtaken(0, 1, 0), 2);
        due("at sea: at first to where it goes", x.overtaken(0, 2, 0), 6);
        x.days(2);
        due("the day before it is there, the same", x.overtaken(0, 1, 0), 2);
        due("others that could sail do not", x.ahead(1, 0), 9);
        NewsShips stays = Check.with("p3;w0,1,1;w1,2,9;t1;");
        stays.happen(0);
        due("it fetches it in 0 on day 1", stays.carried(0, 2, 0), 11);
        NewsShips slow = Check.with("p3;w0,1,9;w0,1,1;w1,2,9;b1;");
        slow.happen(0);
        due("it stays in 1 till day 3", slow.carried(0, 2, 0), 3 + 18);
    }

    private void carried() {
        doc.terms("CARRIED by it: the least DAY from which a PORT can know NEWS: WITHOUT it, or as it comes there knowing it"
            + " (it knows what it knows now, or what a PORT knows, WITHOUT it, while it is there); NONE: not till DAY 150.");
        NewsShips x = Check.with("p4;w0,1,3;w1,2,2;t0;t2;g0;b1;");
        x.happen(0);
        due("where it is known", x.carried(0, 0, 0), 0);
        due("it knows it now", x.carried(0, 1, 0), 3);
        due("and goes on", x.carried(0, 2, 0), 5);
        due("where it can't come", x.carried(0, 3, 0), NONE);
        due("it stays in 1 till day 9, or fetches it on day 5", x.carried(1, 2, 0), 10);
        due("fetched on day 5, in 1 on day 8", x.carried(1, 1, 0), 8);
        due("a ghost: without it", x.carried(2, 1, 0), 9);
        due("a barge in 1: in 0 on 6, back on 12, or without it on 9", x.carried(3, 1, 0), 9);
        due("a barge: from 1 on 9, in 2 on 13", x.carried(3, 2, 0), 13);
        x.sail(0, 0);
        due("at sea it knows it", x.carried(0, 2, 0), 5);
        due("the trader in 2: there on 3 by the other", x.carried(1, 2, 0), 5);
        NewsShips gone = Check.with("p2;w0,1,1;t0;");
        gone.happen(0);
        gone.days(5);
        due("gone already", gone.carried(0, 1, 0), 3);
        for (int day = 97; day <= 99; day++) {
            NewsShips far = Check.on(day, "p4;w0,1,9;w1,2,9;w2,3,8;b0;");
            far.happen(0);
            due("by the ship on " + (day + 52), far.carried(0, 3, 0), day <= 98 ? day + 52 : NONE);
        }
        for (int day = 95; day <= 98; day++) {
            NewsShips far = Check.on(day, "p4;w0,1,9;w1,2,9;t3;");
            far.happen(0);
            due("without it on " + (day + 54), far.carried(0, 2, 0), day <= 96 ? day + 54 : NONE);
        }

        doc.promise(19, "CARRIED; NONE. BAD.");
        Check.range("ship", 0, 3, v -> x.carried(v, 0, 0));
        Check.range("port", 0, 3, v -> x.carried(0, v, 0));
        Check.range("news", 0, 0, v -> x.carried(0, 0, v));
        due("no ships", Check.with("p2;").carried(0, 0, 0), BAD);
    }

    private void fame() {
        doc.terms("FAME behind d DAYS (0 to 30): to how many PORTS at most it can have come, knowing NEWS,");
        NewsShips x = Check.with("p4;w0,1,9;w1,2,6;w2,3,1;b0;g0;");
        x.happen(0);
        int[][] byDays = {{0, 0, 0}, {1, 0, 0}, {17, 0, 0}, {18, 1, 18}, {29, 1, 18}, {30, 2, 30}};
        for (int[] by : byDays) {
            due("ports behind " + by[0], x.fame(0, 0, by[0], 0), by[1]);
            due("days behind " + by[0], x.fame(0, 0, by[0], 1), by[2]);
        }
        due("again behind fewer: no port", x.fame(0, 0, 17, 0), 0);
        due("again behind fewer: no days", x.fame(0, 0, 17, 1), 0);
        due("a ghost knows none", x.fame(1, 0, 30, 0), 0);
        NewsShips home = Check.with("p2;w0,1,9;b1;");
        home.happen(1);
        due("to port 0", home.fame(0, 0, 18, 0), 1);
        due("to port 0", home.fame(0, 0, 18, 1), 18);
        NewsShips beyond = Check.with("p4;w0,1,9;w1,2,7;b0;");
        beyond.happen(0);
        due("32 days are too many", beyond.fame(0, 0, 30, 0), 1);
        NewsShips later = Check.on(50, "p4;w0,1,9;w1,2,6;w2,3,1;b0;");
        later.happen(0);
        due("from this day on", later.fame(0, 0, 30, 0), 2);
        due("from this day on", later.fame(0, 0, 29, 0), 1);
        due("from this day on", later.fame(0, 0, 30, 1), 30);
        NewsShips fetch = Check.with("p3;w0,1,2;w1,2,2;t1;");
        fetch.happen(0);
        due("to 0 for it, back to 1 and to 2", fetch.fame(0, 0, 6, 0), 2);
        due("as it comes to 1 at first, it does not know it", fetch.fame(0, 0, 3, 0), 0);
        due("back in 1", fetch.fame(0, 0, 4, 0), 1);
        NewsShips star = Check.with("p6;w0,1,1;w0,2,1;w0,3,1;w0,4,1;w0,5,1;c0;");
        star.happen(0);
        due("one on day 1; the next on day 3, as a signal is", star.fame(0, 0, 30, 0), 1);
        NewsShips ring = Check.with("p6;w0,1,9;w1,2,1;w2,3,1;w3,4,1;w4,5,1;c0;");
        ring.happen(0);
        due("all but its own", ring.fame(0, 0, 30, 0), 5);
        due("all but its own, 5 and 4 days", ring.fame(0, 0, 30, 1), 9);
        due("all but its own", ring.fame(0, 0, 9, 0), 5);
        due("one fewer", ring.fame(0, 0, 8, 0), 4);

        doc.promise(20, "FAME: how many PORTS (what = 0), the fewest DAYS (1). BAD.");
        Check.range("ship", 0, 1, v -> x.fame(v, 0, 0, 0));
        Check.range("news", 0, 0, v -> x.fame(0, v, 0, 0));
        Check.range("d", 0, 30, v -> x.fame(0, 0, v, 0));
        Check.range("d", 0, 30, v -> x.fame(0, 0, v, 1));
        Check.range("what", 0, 1, v -> x.fame(0, 0, 0, v));
        due("no ships", Check.with("p2;").fame(0, 0, 0, 0), BAD);
    }

    private void fameAhead() {
        doc.terms("ahead of the DAY from which they know it, WITHOUT it; and the fewest DAYS for as many.");
        // In 2 on day 5; in 1 on day 12, as a signal is, or on day 11.
        for (int days = 6; days <= 8; days++) {
            NewsShips x = Check.with("p3;w0,1,4;w0,2,5;w2,1," + days + ";t0;");
            x.happen(0);
            x.sail(0, 1);
            due("on day " + (5 + days) + " for 12", x.fame(0, 0, 30, 0), days == 6 ? 2 : 1);
            due("the fewest days", x.fame(0, 0, 30, 1), days == 6 ? 11 : 5);
            due("not by itself, that would be on day 5", x.fame(0, 0, 5, 0), 1);
            due("a day too early", x.fame(0, 0, 4, 0), 0);
        }
        NewsShips apart = Check.on(97, "p3;w0,1,9;w1,2,9;c0;");
        apart.happen(0);
        due("without it, not till day 150", apart.ahead(2, 0), NONE);
        due("ahead of what does not come", apart.fame(0, 0, 30, 0), 2);
        due("its days", apart.fame(0, 0, 30, 1), 10);
        NewsShips none = Check.with("p2;w0,1,1;t0;t1;");
        none.happen(0);
        none.days(3);
        due("all know it", none.fame(0, 0, 30, 0), 0);
        due("no days for none", none.fame(0, 0, 30, 1), 0);
        NewsShips choice = Check.with("p4;w0,1,2;w0,2,3;w0,3,9;t0;");
        choice.happen(0);
        due("1 on day 2, 2 on day 7, 3 on day 19", choice.fame(0, 0, 30, 0), 3);
        due("fewest", choice.fame(0, 0, 30, 1), 19);
        due("behind 18: 1 and 2", choice.fame(0, 0, 18, 0), 2);
        due("behind 18: on day 7, not 8", choice.fame(0, 0, 18, 1), 7);
    }

    private void overtaken() {
        doc.terms("OVERTAKEN: by how many DAYS it can be in a PORT ahead of the DAY from which that knows NEWS, WITHOUT it;"
            + " NONE: not ahead, or that never comes.");
        for (int days = 1; days <= 9; days++) {
            NewsShips x = Check.with("p3;w0,1,2;w2,1," + days + ";t2;");
            x.happen(0);
            due("in 1 on day " + days + " for 6", x.overtaken(0, 1, 0), days < 6 ? 6 - days : NONE);
        }
        NewsShips x = Check.with("p4;w0,1,2;w2,3,2;t0;t2;");
        x.happen(0);
        due("where it began: not ahead", x.overtaken(0, 0, 0), NONE);
        due("the ship never comes there", x.overtaken(1, 1, 0), NONE);
        due("the news never comes there", x.overtaken(1, 3, 0), NONE);
        due("neither comes there", x.overtaken(0, 3, 0), NONE);
        for (int day = 95; day <= 98; day++) {
            NewsShips far = Check.on(day, "p3;w0,1,9;w1,2,9;t2;");
            far.happen(0);
            due("known on " + (day + 54), far.overtaken(0, 2, 0), day <= 96 ? 54 : NONE);
            NewsShips back = Check.on(day, "p3;w0,1,9;w1,2,9;t0;");
            back.happen(2);
            due("in port 0 on " + (day + 54), back.overtaken(0, 0, 0), day <= 96 ? 54 : NONE);
        }

        doc.promise(21, "OVERTAKEN; NONE. BAD.");
        Check.range("ship", 0, 1, v -> x.overtaken(v, 0, 0));
        Check.range("port", 0, 3, v -> x.overtaken(0, v, 0));
        Check.range("news", 0, 0, v -> x.overtaken(0, 0, v));
        due("no ships", Check.with("p2;").overtaken(0, 0, 0), BAD);
    }

    private void sureness() {
        doc.terms("SURE (k 0 to 3): 0: the DAY from which all PORTS know NEWS by AHEAD;"
            + " k: each PORT is SURE as of k when by SIGNALS from each PORT, sent when that is SURE as of k less 1"
            + " (0: when it knows), it has heard; the DAY from which all are;");
        NewsShips x = Check.with("p2;w0,1,1;t0;");
        x.happen(0);
        int[] two = {3, 6, 9, 12};
        for (int k = 0; k < 4; k++) {
            due("two ports, k = " + k, x.sure(0, k), two[k]);
        }
        x.sail(0, 0);
        int[] byShip = {1, 4, 7, 10};
        for (int k = 0; k < 4; k++) {
            due("by a ship that comes in, k = " + k, x.sure(0, k), byShip[k]);
        }
        x.days(20);
        for (int k = 0; k < 4; k++) {
            due("gone already, k = " + k, x.sure(0, k), byShip[k]);
        }
        // Day 15 and 135 is 150; each sureness takes a signal from the one end to the other.
        String line = "p6;w0,1,9;w1,2,9;w2,3,9;w3,4,9;w4,5,9;";
        NewsShips last = Check.on(15, line);
        last.happen(0);
        int[] latest = {150, 285, 420, 555};
        for (int k = 0; k < 4; k++) {
            due("the latest that can be, k = " + k, last.sure(0, k), latest[k]);
        }

        doc.terms("NONE: some never, or not till DAY 999.");
        NewsShips far = Check.on(16, line);
        far.happen(0);
        NewsShips apart = Check.with("p3;w0,1,1;");
        apart.happen(0);
        for (int k = 0; k < 4; k++) {
            due("one not till day 150, k = " + k, far.sure(0, k), NONE);
            due("one never, k = " + k, apart.sure(0, k), NONE);
        }

        doc.promise(22, "SURE; NONE. BAD.");
        Check.range("k", 0, 3, v -> x.sure(0, v));
        Check.range("news", 0, 0, v -> x.sure(v, 0));
        due("no news", Check.with("p2;").sure(0, 0), BAD);
    }

    private void began() {
        doc.terms("BEGAN: a row tells pairs of ITEMS, a PORT and a DAY: PORTS (bits) in which NEWS can have begun,"
            + " on some DAY (0 or later), so that by SIGNALS alone each of these knows it from just that DAY on.");
        NewsShips x = Check.with("p3;w0,1,2;w1,2,3;t0;");
        for (int day = 0; day <= 20; day++) {
            Check.fill(x, 0, 1, day);
            int want = 2 | (day >= 6 ? 1 : 0) | (day >= 9 ? 4 : 0);
            due("port 1 from day " + day, x.began(0, 0, 1), want);
        }
        int[][] logs = {
            {1, 10, 0, 4}, {1, 10, 0, 3}, {1, 10, 0, 5}, {1, 10, 0, 16}, {1, 10, 2, 1}, {1, 9, 2, 0}, {1, 8, 2, 0},
            {0, 15, 2, 0}, {0, 14, 2, 0}, {1, 10, 1, 10}, {1, 10, 1, 11},
        };
        int[] want = {1, 0, 0, 6, 4, 4, 0, 4, 0, 7, 0};
        for (int i = 0; i < logs.length; i++) {
            Check.fill(x, 0, logs[i]);
            due("two logs, the " + i + "th", x.began(0, 0, 2), want[i]);
        }
        x.happen(0);
        x.sail(0, 0);
        x.days(3);
        Check.fill(x, 0, 0, 0, 1, 2);
        due("by signals alone, not by ships that there were", x.began(0, 0, 2), 0);
        NewsShips apart = Check.with("p6;");
        Check.fill(apart, 0, 0, 0, 5, 99, 5, 0);
        due("without ways", apart.began(0, 0, 1), 1);
        due("without ways", apart.began(0, 2, 1), 32);
        due("no two ports can know it", apart.began(0, 0, 2), 0);
        due("a log of none: all ports", apart.began(0, 0, 0), 63);
    }

    private void beganRefused() {
        doc.promise(23, "BEGAN by n pairs (0 to 6) of a ROW from i on. BAD: ROW, n;");
        NewsShips x = Check.with("p3;w0,1,2;");
        for (int row = 0; row < 8; row++) {
            x.row(row, row % 3, 40);
        }
        Check.range("row", 0, 7, v -> x.began(v, 0, 1));
        Check.range("n", 0, 6, v -> x.began(0, 0, v));
        for (int i = 0; i < 40; i++) {
            x.set(1, i, i % 2 == 0 ? 1 : i);
        }
        due("from 0 on", x.began(1, 0, 1), 2);
        due("from 6 on", x.began(1, 6, 1), 3);
        due("two pairs that differ", x.began(1, 0, 2), 0);

        doc.promise(23, "STATE: no LEAGUE (ahead of BAD);");
        NewsShips none = new NewsShips();
        none.row(0, 2, 12);
        due("no league", none.began(0, 0, 0), STATE);
        due("ahead of a BAD row", none.began(8, 0, 0), STATE);
        due("ahead of a BAD row", none.began(-1, 0, 0), STATE);
        due("ahead of a BAD n", none.began(0, 0, 7), STATE);
        due("ahead of a BAD n", none.began(0, 0, -1), STATE);
        due("ahead of NULL", none.began(1, 0, 0), STATE);
        due("ahead of PLACE", none.began(0, 13, 0), STATE);
        none.set(0, 0, 9);
        due("ahead of a BAD pair", none.began(0, 0, 1), STATE);

        doc.promise(23, "NULL; PLACE; then BAD: a pair that is none (DAYS 0 to 99).");
        x.drop(7);
        due("missing", x.began(7, 0, 0), NULL);
        due("missing, ahead of PLACE", x.began(7, -1, 6), NULL);
        due("a BAD n ahead of missing", x.began(7, 0, 7), BAD);
        due("the last that has room", x.began(0, 28, 6), 1);
        due("beyond the end", x.began(0, 29, 6), PLACE);
        due("half a pair", x.began(0, 39, 1), PLACE);
        due("the last pair", x.began(0, 38, 1), 1);
        due("none at the end", x.began(0, 40, 0), 7);
        due("none beyond it", x.began(0, 41, 0), PLACE);
        due("i = -1", x.began(0, -1, 1), PLACE);
        due("i = -1 of none", x.began(0, -1, 0), PLACE);
        for (int far : new int[] {LEAST, MOST, MOST - 11, LEAST + 11}) {
            due("i = " + far, x.began(0, far, 6), PLACE);
        }
        x.row(6, 0, 0);
        due("an empty row", x.began(6, 0, 0), 7);
        due("an empty row", x.began(6, 0, 1), PLACE);
        x.row(6, 0, 1);
        due("a row of one", x.began(6, 0, 1), PLACE);
        for (int bad : new int[] {-1, 3, LEAST, MOST}) {
            Check.fill(x, 5, 0, 0, bad, 0, 0, 0);
            due("port " + bad, x.began(5, 0, 2), BAD);
            due("ahead of it", x.began(5, 0, 1), 1);
            due("behind it", x.began(5, 4, 1), 1);
            due("PLACE ahead of a BAD pair", x.began(5, 2, 3), PLACE);
        }
        for (int bad : new int[] {-1, 100, LEAST, MOST}) {
            Check.fill(x, 5, 2, 0, 2, bad);
            due("day " + bad, x.began(5, 0, 2), BAD);
            due("ahead of it", x.began(5, 0, 1), 4);
        }
        Check.fill(x, 5, 0, 99, 2, 99);
        due("day 99", x.began(5, 0, 1), 3);
        due("day 99 of the last port", x.began(5, 2, 1), 4);
        Check.fill(x, 5, 0, 1, 0, 2, 9, 9);
        due("a BAD pair behind two that are at odds", x.began(5, 0, 3), BAD);
    }

    private static void oddsAre(NewsShips x, int port, int day, int c, int above, int below) {
        String call = "odds of port " + port + " on day " + day + " by " + c;
        due(call + ", above", x.odds(port, 0, day, c, 0), above);
        due(call + ", below", x.odds(port, 0, day, c, 1), below);
    }

    private void odds() {
        doc.terms("ODDS that a PORT knows NEWS on a DAY (from this one to 150), no SHIP SAILING any more,"
            + " if each SHIP that is at sea now is lost by c of 10 (each by itself; it tells nothing any more): a fraction.");
        NewsShips x = Check.with("p2;w0,1,9;t0;t0;t0;t0;");
        x.happen(0);
        oddsAre(x, 1, 26, 3, 0, 1);
        oddsAre(x, 1, 27, 10, 1, 1);
        for (int s = 0; s < 4; s++) {
            x.sail(s, 0);
        }
        int[][] four = {
            {0, 1, 1}, {1, 9999, 10000}, {2, 624, 625}, {3, 9919, 10000}, {4, 609, 625}, {5, 15, 16},
            {6, 544, 625}, {7, 7599, 10000}, {8, 369, 625}, {9, 3439, 10000}, {10, 0, 1},
        };
        for (int[] by : four) {
            oddsAre(x, 1, 8, by[0], 0, 1);
            oddsAre(x, 1, 9, by[0], by[1], by[2]);
            oddsAre(x, 1, 26, by[0], by[1], by[2]);
            oddsAre(x, 1, 27, by[0], 1, 1);
            oddsAre(x, 0, 0, by[0], 1, 1);
        }
        x.days(9);
        oddsAre(x, 1, 9, 10, 1, 1);
        NewsShips each = Check.with("p3;w0,1,5;w2,1,5;t0;t2;c0;");
        each.happen(0);
        each.sail(0, 0);
        each.sail(1, 1);
        oddsAre(each, 1, 5, 4, 3, 5);
        oddsAre(each, 2, 20, 4, 3, 5);
        oddsAre(each, 2, 19, 4, 0, 1);
        oddsAre(each, 2, 30, 4, 1, 1);
        NewsShips far = Check.on(97, "p3;w0,1,9;w1,2,9;t0;");
        far.happen(0);
        oddsAre(far, 1, 124, 5, 1, 1);
        oddsAre(far, 1, 123, 5, 0, 1);
        oddsAre(far, 2, 150, 5, 0, 1);

        doc.terms("All that is divided is cut towards 0, but fractions, told as two numbers in lowest terms (0 is 0 by 1).");
        oddsAre(x, 0, 150, 5, 1, 1);
        NewsShips one = Check.with("p2;w0,1,9;t0;");
        one.happen(0);
        one.sail(0, 0);
        int[][] lowest = {
            {1, 1}, {9, 10}, {4, 5}, {7, 10}, {3, 5}, {1, 2}, {2, 5}, {3, 10}, {1, 5}, {1, 10}, {0, 1},
        };
        for (int c = 0; c <= 10; c++) {
            oddsAre(one, 1, 9, c, lowest[c][0], lowest[c][1]);
        }
        oddsAre(one, 1, 8, 5, 0, 1);
    }

    private void oddsRefused() {
        doc.promise(24, "ODDS by c (0 to 10): above (what = 0), below (1). BAD.");
        NewsShips x = Check.on(5, "p3;w0,1,9;t0;");
        x.happen(0);
        x.sail(0, 0);
        for (int what = 0; what < 2; what++) {
            int w = what;
            Check.range("port", 0, 2, v -> x.odds(v, 0, 20, 5, w));
            Check.range("news", 0, 0, v -> x.odds(0, v, 20, 5, w));
            Check.range("day", 5, 150, v -> x.odds(1, 0, v, 5, w));
            Check.range("c", 0, 10, v -> x.odds(1, 0, 20, v, w));
        }
        Check.range("what", 0, 1, v -> x.odds(1, 0, 20, 5, v));
        x.days(1);
        Check.range("day, one later", 6, 150, v -> x.odds(1, 0, v, 5, 0));
        NewsShips last = Check.on(99, "p2;");
        last.happen(0);
        Check.range("day, on the last", 99, 150, v -> last.odds(1, 0, v, 5, 0));
        due("no news", Check.with("p2;").odds(0, 0, 0, 0, 0), BAD);
    }

    private void images() {
        doc.promise(26, "An IMAGE (0, 1) is kept of the LEAGUE: 1. BAD; STATE: no LEAGUE.");
        NewsShips none = new NewsShips();
        due("no league", none.image(0), STATE);
        due("no league", none.image(1), STATE);
        due("BAD ahead of STATE", none.image(2), BAD);
        due("BAD ahead of STATE", none.image(-1), BAD);
        due("so none was kept", none.restore(0), STATE);
        NewsShips x = Check.with("p3;w0,1,2;t0;");
        Check.range("k", 0, 1, v -> x.image(v));
        x.happen(0);
        x.days(1);
        due("no act is forgotten", x.image(1), 1);
        due("no act is forgotten", x.count(7), 2);
        due("no act is made", x.undo(), 1);

        doc.promise(27, "The LEAGUE is as an IMAGE kept it (no ACT can be undone then): 1. BAD; STATE: none was kept.");
        due("as the second kept it", x.restore(1), 1);
        due("day", x.count(4), 1);
        due("news", x.count(5), 1);
        due("no act", x.count(7), 0);
        due("no act", x.undo(), STATE);
        due("as the first kept it", x.restore(0), 1);
        due("day", x.count(4), 0);
        due("news", x.count(5), 0);
        due("knows nothing", x.ship(0, 3), 0);
        due("an act behind it", x.happen(1) + x.count(7), 1);
        due("is undone", x.undo(), 0);
        Check.range("k", 0, 1, v -> x.restore(v));
        NewsShips one = Check.with("p3;w0,1,2;t0;");
        due("none was kept", one.restore(0), STATE);
        one.image(1);
        due("of the other none was kept", one.restore(0), STATE);
        due("BAD ahead of STATE", one.restore(2), BAD);
        due("BAD ahead of STATE", one.restore(-1), BAD);
        one.sail(0, 0);
        one.days(1);
        due("what is refused forgets no act", one.restore(0), STATE);
        due("what is refused forgets no act", one.count(7), 2);
        due("kept", one.restore(1), 1);
        one.sail(0, 0);
        one.days(20);
        due("an image stays as it was kept", one.restore(1), 1);
        due("an image stays as it was kept", one.count(4) + one.count(6), 0);
        NewsShips whole = Check.on(3, "p4;w0,1,2;w2,1,3;t0;g2;");
        whole.happen(2);
        whole.happen(0);
        whole.sail(0, 0);
        whole.days(2);
        whole.sail(0, 1);
        whole.days(1);
        whole.image(0);
        due("another league", Check.read(whole, "p2;w1,0,9;b1;b1;b1;"), 2);
        whole.happen(1);
        whole.happen(1);
        due("as it was kept", whole.restore(0), 1);
        int[] counts = {0, 4, 2, 2, 6, 2, 1, 0, 0};
        for (int what = 0; what < counts.length; what++) {
            due("count(" + what + ")", whole.count(what), counts[what]);
        }
        due("its ways", whole.takes(0, 1), 3);
        due("its kinds", whole.kind(1), 5);
        due("to which it goes", whole.ship(0, 0), 2);
        due("when it is there", whole.ship(0, 1), 2);
        due("its pence", whole.ship(0, 2), 8);
        due("what it knows", whole.ship(0, 3), 2);
        due("when news began", whole.news(0, 0), 3);
        due("where it began", whole.news(0, 1), 2);
        due("where the other began", whole.news(1, 1), 0);
        due("what a port knows", whole.knows(1, 1), 5);
        due("what a port does not know", whole.knows(1, 0), NONE);
    }
}
