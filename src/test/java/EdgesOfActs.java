/** The edges that the document names for a LEAGUE and its ACTS, sentence by sentence. */
final class EdgesOfActs {
    private static final int NONE = NewsShips.NONE, BAD = NewsShips.BAD, STATE = NewsShips.STATE, FULL = NewsShips.FULL;

    // What a way of 1 to 9 days takes; a courier and a ghost take the same.
    private static final int[] CUTTER = {1, 1, 2, 2, 3, 3, 4, 4, 5};
    private static final int[] BARGE = {2, 4, 6, 8, 10, 12, 14, 16, 18};
    private static final int[] COURIER = {1, 1, 2, 3, 4, 5, 6, 7, 8};
    private static final int[] SIGNAL = {3, 6, 9, 12, 15, 18, 21, 24, 27};

    private final Doc doc;

    EdgesOfActs(Doc doc) {
        this.doc = doc;
    }

    void test() {
        whatAWayTakes();
        whatASignalTakes();
        newsBegins();
        ghosts();
        signals();
        shipsComeIn();
        pence();
        shipsAreTold();
        keptActs();
        whatActsAre();
        happening();
        sailing();
        daysGoBy();
        undoing();
        questions();
    }

    private static void due(String call, int got, int want) {
        Check.due(call, got, want);
    }

    private void whatAWayTakes() {
        doc.terms("A WAY takes a trader as many DAYS as told, a cutter half of that (of 3 it takes 2, of 1 it takes 1),"
            + " a barge twice that; a courier, a ghost 1 less, 1 at least.");
        for (int days = 1; days <= 9; days++) {
            String way = "p2;w0,1," + days + ";";
            int[] want = {days, CUTTER[days - 1], BARGE[days - 1], COURIER[days - 1], COURIER[days - 1]};
            for (int sort = 0; sort < 5; sort++) {
                String text = way + "tcbmg".charAt(sort) + "0;";
                NewsShips x = Check.with(text);
                due(text + " takes", x.takes(0, 0), want[sort]);
                due(text + " sails", x.sail(0, 0), want[sort]);
                due(text + " is there in", x.ship(0, 1), want[sort]);
                if (want[sort] > 1) {
                    x.days(want[sort] - 1);
                }
                due(text + " is at sea the day before", x.count(6), 1);
                due(text + " is there the next day", x.ship(0, 1), 1);
                x.days(1);
                due(text + " is there", x.port(1, 1), 1);
                due(text + " takes as much back", x.sail(0, 0), 2 * want[sort]);
            }
        }

        doc.promise(17, "How many DAYS a WAY takes a SHIP. BAD.");
        NewsShips x = Check.with("p3;w0,1,3;w1,2,1;w2,0,9;t0;c0;b0;");
        Check.range("ship", 0, 2, v -> x.takes(v, 0));
        Check.range("way", 0, 2, v -> x.takes(0, v));
        due("a way that has no end in its port", x.takes(0, 1), 1);
        x.sail(2, 0);
        due("at sea", x.takes(2, 2), 18);
        due("a cutter on 3", x.takes(1, 0), 2);
        due("a cutter on 1", x.takes(1, 1), 1);
        due("no ways", Check.with("p2;t0;").takes(0, 0), BAD);
        due("no ships", Check.with("p2;w0,1,1;").takes(0, 0), BAD);
    }

    private void whatASignalTakes() {
        doc.terms("A SIGNAL takes three times the DAYS.");
        for (int days = 1; days <= 9; days++) {
            NewsShips x = Check.with("p2;w0,1," + days + ";");
            x.happen(1);
            int takes = SIGNAL[days - 1];
            Check.pass(x, takes - 1);
            due("the day before, by " + days, x.knows(0, 0), NONE);
            due("it comes", x.days(1), 1);
            due("on the day, by " + days, x.knows(0, 0), takes);
        }
    }

    private void newsBegins() {
        doc.terms("NEWS 0 .. 3 (4 at most) begins in a PORT: that knows it from that DAY on; SHIPS in it know it, too.");
        NewsShips x = Check.with("p3;w0,1,5;t0;t0;t1;t2;");
        x.sail(1, 0);
        for (int news = 0; news < 4; news++) {
            due("no news " + news + " yet", x.news(news, 0), BAD);
            due("news " + news, x.happen(0), news);
            due("known from this day on", x.knows(0, news), news);
            due("begun on this day", x.news(news, 0), news);
            due("news there are", x.count(5), news + 1);
            due("a ship in it knows all", x.ship(0, 3), (2 << news) - 1);
            due("one at sea does not", x.ship(1, 3), 0);
            due("one elsewhere does not", x.ship(2, 3), 0);
            x.days(1);
        }
        due("a fifth", x.happen(1), FULL);
        due("no news 4", x.news(4, 0), BAD);
        NewsShips late = Check.on(99, "p2;t1;");
        due("on the last day", late.happen(1), 0);
        due("known from then on", late.knows(1, 0), 99);
        due("by the ship, too", late.ship(0, 3), 1);
        NewsShips last = Check.with("p6;t5;");
        due("in the last port", last.happen(5), 0);
        due("in the last port", last.news(0, 1), 5);
    }

    private void ghosts() {
        doc.terms("A ghost knows no NEWS ever.");
        NewsShips x = Check.with("p3;w0,1,1;w1,2,1;g0;g1;g2;t0;");
        x.happen(0);
        due("where it begins", x.ship(0, 3), 0);
        x.sail(0, 0);
        x.days(1);
        due("it brings none", x.knows(1, 0), NONE);
        due("it has no pence", x.ship(0, 2), 0);
        x.sail(1, 0);
        x.days(1);
        due("it comes to where it is known", x.ship(1, 3), 0);
        x.days(1);
        due("a signal comes to where it is", x.knows(1, 0), 3);
        due("a signal comes to where it is", x.ship(0, 3), 0);
        x.sail(0, 1);
        x.days(1);
        due("from where it is known it brings none", x.port(2, 0), 0);
        due("nor pence", x.ship(0, 2), 0);
        x.happen(2);
        due("news where it is", x.ship(0, 3) + x.ship(2, 3), 0);
        x.days(20);
        due("all ports know all", x.port(0, 0) * 100 + x.port(1, 0) * 10 + x.port(2, 0), 333);
        due("none ever", x.ship(0, 3) + x.ship(1, 3) + x.ship(2, 3), 0);
    }

    private void signals() {
        doc.terms("A DAY goes by: the DAY is 1 more. Then each PORT that has a WAY to one that has known some NEWS"
            + " for as many DAYS as a SIGNAL takes on it, or more, knows it, too.");
        String[] lines = {"p4;w0,1,1;w1,2,1;w2,3,1;", "p4;w2,3,1;w1,2,1;w0,1,1;", "p4;w3,2,1;w1,2,1;w1,0,1;"};
        for (String line : lines) {
            NewsShips x = Check.with(line);
            due("day 0", x.count(4), 0);
            x.happen(0);
            int[] known = {0, 0, 1, 0, 0, 1, 0, 0, 1, 0};
            for (int day = 1; day <= 10; day++) {
                due(line + " on day " + day, x.days(1), known[day - 1]);
                due("one day more", x.count(4), day);
            }
            for (int port = 0; port < 4; port++) {
                due(line + " from " + port, x.knows(port, 0), 3 * port);
            }
        }
        NewsShips two = Check.with("p2;w0,1,9;w1,0,2;w0,1,5;");
        two.happen(0);
        two.days(20);
        due("by the shortest of three", two.knows(1, 0), 6);
        NewsShips around = Check.with("p3;w0,1,9;w0,2,4;w2,1,4;");
        around.happen(0);
        Check.pass(around, 30);
        due("around", around.knows(1, 0), 24);
        NewsShips none = Check.with("p3;w0,1,1;");
        none.happen(0);
        Check.pass(none, 99);
        due("where no way goes", none.knows(2, 0), NONE);
        NewsShips each = Check.with("p2;w0,1,1;");
        each.happen(0);
        each.days(1);
        each.happen(0);
        due("not yet", each.days(1), 0);
        due("the first", each.days(1), 1);
        due("only the first", each.port(1, 0), 1);
        due("the second", each.days(1), 1);
        due("both", each.port(1, 0), 3);
    }

    private void shipsComeIn() {
        doc.terms("Then SHIPS, by numbers, whose DAY it is to be there are in their PORTS:"
            + " what a SHIP knows and the PORT does not, the PORT knows from then on:");
        NewsShips x = Check.with("p3;w0,1,4;w2,1,4;t0;t0;t2;b0;");
        x.happen(0);
        x.happen(2);
        for (int s = 0; s < 3; s++) {
            x.sail(s, s == 2 ? 1 : 0);
        }
        due("the day before", x.days(3), 0);
        due("none is there", x.port(1, 1), 0);
        due("two come to be known", x.days(1), 2);
        due("all three are there", x.port(1, 1), 7);
        due("from then on", x.knows(1, 0) * 10 + x.knows(1, 1), 44);
        due("the first of two by number has the pence", x.ship(0, 2), 6);
        due("the second none", x.ship(1, 2), 0);
        due("the other for the other", x.ship(2, 2), 6);
        NewsShips later = Check.with("p2;w0,1,2;w0,1,3;t0;t0;");
        later.happen(0);
        later.sail(0, 1);
        later.sail(1, 0);
        due("one comes", later.days(2), 1);
        due("nobody anew", later.days(1), 0);
        due("who is earlier has the pence, not the lower number", later.ship(0, 2) * 10 + later.ship(1, 2), 8);
        // A signal comes ahead of ships of the same day.
        NewsShips same = Check.with("p2;w0,1,1;t0;");
        same.happen(0);
        same.days(2);
        same.sail(0, 0);
        due("once", same.days(1), 1);
        due("by the signal, so no pence", same.ship(0, 2), 0);
        NewsShips before = Check.with("p2;w0,1,1;t0;");
        before.happen(0);
        before.days(1);
        before.sail(0, 0);
        due("a day ahead of the signal", before.days(1), 1);
        due("so it has pence", before.ship(0, 2), 8);
        due("and the signal tells nothing", before.days(1), 0);
        due("from then on", before.knows(1, 0), 2);
    }

    private void pence() {
        doc.terms("the SHIP has PENCE more for it: 10 less how many DAYS ago it began, 0 at least.");
        for (int wait = 0; wait <= 4; wait++) {
            for (int days = 7; days <= 9; days++) {
                NewsShips x = Check.with("p2;w0,1," + days + ";t0;");
                x.happen(0);
                Check.pass(x, wait);
                x.sail(0, 0);
                due("it comes", x.days(days), 1);
                int[] want = {3, 2, 1, 0, 0, 0, 0};
                due("begun " + (wait + days) + " days ago", x.ship(0, 2), want[wait + days - 7]);
            }
        }
        NewsShips most = Check.with("p2;w0,1,1;c0;");
        for (int i = 0; i < 4; i++) {
            most.happen(0);
        }
        most.sail(0, 0);
        due("four at once", most.days(1), 4);
        due("9 each", most.ship(0, 2), 36);
        NewsShips more = Check.with("p3;w0,1,2;w1,2,9;t0;");
        more.happen(0);
        more.sail(0, 0);
        more.days(2);
        due("8", more.ship(0, 2), 8);
        more.sail(0, 1);
        more.days(9);
        due("none more, none less", more.ship(0, 2), 8);
        due("though it is known by it", more.knows(2, 0), 11);
        NewsShips own = Check.with("p2;w0,1,1;t0;");
        own.happen(0);
        own.sail(0, 0);
        own.days(1);
        own.happen(1);
        own.sail(0, 0);
        own.days(1);
        due("9 and 9", own.ship(0, 2), 18);
    }

    private void shipsAreTold() {
        doc.terms("Then SHIPS in PORTS know all that is known there.");
        NewsShips x = Check.with("p3;w0,1,2;w2,1,2;b1;t2;t0;t1;");
        x.happen(0);
        x.sail(2, 0);
        x.sail(1, 1);
        x.sail(3, 0);
        x.days(1);
        due("nobody yet", x.ship(0, 3) + x.ship(1, 3) + x.ship(3, 3), 0);
        x.days(1);
        due("who lies there", x.ship(0, 3), 1);
        due("who comes on that day, though of a lower number", x.ship(1, 3), 1);
        due("who comes to where it began", x.ship(3, 3), 1);
        NewsShips y = Check.with("p2;w0,1,1;t1;t1;");
        y.happen(0);
        y.days(2);
        due("not yet", y.ship(0, 3), 0);
        y.sail(1, 0);
        y.days(1);
        due("by a signal, on its day", y.ship(0, 3), 1);
        due("who came to where it is known", y.ship(1, 3), 1);
        NewsShips away = Check.with("p2;w0,1,9;t0;t1;");
        away.sail(0, 0);
        away.happen(0);
        away.days(8);
        due("who sailed ahead of it", away.ship(0, 3), 0);
        away.days(1);
        due("is not told at sea", away.ship(0, 3) + away.port(1, 0), 0);
    }

    private void keptActs() {
        doc.terms("ACTS (24 at most are kept, of more the oldest is forgotten; each can be undone, the latest first):");
        NewsShips x = Check.with("p2;w0,1,9;t0;");
        x.happen(1);
        x.sail(0, 0);
        for (int i = 3; i <= 24; i++) {
            x.days(1);
            due("kept", x.count(7), i);
        }
        for (int i = 23; i >= 2; i--) {
            due("undone", x.undo(), i);
            due("the latest first: the day", x.count(4), i - 2);
        }
        due("sailing undone", x.undo(), 1);
        due("in its port", x.port(0, 1), 1);
        due("news undone", x.undo(), 0);
        due("no news", x.count(5), 0);
        due("no more", x.undo(), STATE);

        for (int more = 1; more <= 26; more++) {
            NewsShips y = Check.with("p2;w0,1,9;t0;");
            y.happen(1);
            y.sail(0, 0);
            y.days(2);
            Check.pass(y, 20);
            due("24", y.count(7), 24);
            for (int i = 0; i < more; i++) {
                y.days(1);
                due("24 still", y.count(7), 24);
            }
            for (int i = 23; i >= 0; i--) {
                due("undone", y.undo(), i);
            }
            due("the oldest are forgotten", y.undo(), STATE);
            due("so it is day", y.count(4), Math.max(0, more - 2));
            due("there is news", y.count(5), 1);
            due("at sea, or in its port", y.ship(0, 0), more >= 2 ? 1 : 0);
        }
        NewsShips z = Check.with("p2;");
        Check.pass(z, 24);
        for (int round = 0; round < 3; round++) {
            for (int i = 23; i >= 20; i--) {
                due("undone", z.undo(), i);
            }
            z.days(5);
            due("24 again, one is forgotten", z.count(7), 24);
            due("day", z.count(4), 25 + round);
        }
    }

    private void whatActsAre() {
        doc.terms("NEWS begins; a SHIP SAILS a WAY that has an end in its PORT, to its other end; a DAY goes by.");
        NewsShips x = Check.with("p4;w0,1,2;w2,1,3;w3,0,4;t1;t0;");
        due("news", x.happen(2) + x.count(7), 1);
        due("sails its first end's way", x.sail(1, 0), 2);
        due("to the other end", x.ship(1, 0), 1);
        due("an act", x.count(7), 2);
        due("sails from its second end", x.sail(0, 1), 3);
        due("to the other end", x.ship(0, 0), 2);
        due("an act", x.count(7), 3);
        x.days(1);
        due("an act", x.count(7), 4);
        x.days(20);
        due("an act each day", x.count(7), 24);
        NewsShips y = Check.with("p3;w0,1,1;t0;");
        y.image(0);
        y.row(0, 2, 3);
        y.ask(0, 0);
        y.feed('p');
        y.happen(9);
        y.sail(0, 9);
        y.days(21);
        y.ahead(0, 0);
        due("nothing else is one", y.count(7), 0);
        due("nothing else is one", y.undo(), STATE);
    }

    private void happening() {
        doc.promise(9, "NEWS begins in a PORT: its number. BAD; FULL: there are 4.");
        Check.range("port", 0, 2, v -> Check.with("p3;").happen(v));
        Check.range("port", 0, 5, v -> Check.with("p6;").happen(v));
        NewsShips x = Check.with("p3;");
        for (int i = 0; i < 4; i++) {
            due("its number", x.happen(i % 3), i);
        }
        due("there are 4", x.happen(0), FULL);
        due("BAD ahead of FULL", x.happen(3), BAD);
        due("BAD ahead of FULL", x.happen(-1), BAD);
        due("still 4", x.count(5), 4);
        due("4 acts", x.count(7), 4);
        due("one is undone", x.undo(), 3);
        due("so there is room", x.happen(2), 3);
        due("and full again", x.happen(2), FULL);
        due("where the last began", x.news(3, 1), 2);
        due("no league", new NewsShips().happen(0), BAD);
    }

    private void sailing() {
        doc.promise(10, "A SHIP SAILS a WAY: the DAY when it is there. BAD; STATE: it is at sea,"
            + " the WAY has no end in its PORT.");
        String text = "p4;w0,1,3;w1,2,3;w0,2,3;t0;t0;t0;";
        Check.range("ship", 0, 2, v -> Check.with(text).sail(v, 0));
        Check.range("way", 0, 2, v -> Check.with(text).sail(0, v));
        NewsShips x = Check.with(text);
        due("the way has no end there", x.sail(0, 1), STATE);
        due("it sails", x.sail(0, 0), 3);
        due("it is at sea", x.sail(0, 0), STATE);
        due("it is at sea", x.sail(0, 1), STATE);
        due("BAD ahead of STATE", x.sail(0, 3), BAD);
        due("BAD ahead of STATE", x.sail(0, -1), BAD);
        x.days(2);
        due("at sea on the day before", x.sail(0, 1), STATE);
        x.days(1);
        due("there: it sails on", x.sail(0, 1), 6);
        x.undo();
        due("there: it sails back", x.sail(0, 0), 6);
        x.undo();
        due("there: the way that it had no end of", x.sail(0, 2), STATE);
        NewsShips apart = Check.with("p3;w0,1,3;t2;");
        due("no way has an end there", apart.sail(0, 0), STATE);
        due("no ways", Check.with("p2;t0;").sail(0, 0), BAD);
        due("no ships", Check.with("p2;w0,1,1;").sail(0, 0), BAD);
        due("on the last day, beyond it", Check.on(99, "p2;w0,1,9;b0;").sail(0, 0), 117);
    }

    private void daysGoBy() {
        doc.promise(11, "n DAYS (1 to 20) go by, an ACT each: how many times in these a PORT came to know some NEWS.");
        Check.range("n", 1, 20, v -> Check.with("p2;").days(v));
        for (int n = 1; n <= 20; n++) {
            NewsShips x = Check.with("p3;w0,1,1;w1,2,2;");
            x.happen(0);
            x.happen(0);
            due("days(" + n + ")", x.days(n), n < 3 ? 0 : n < 9 ? 2 : 4);
            due("the day", x.count(4), n);
            due("an act each", x.count(7), n + 2);
        }

        doc.promise(11, "BAD; STATE: no LEAGUE (ahead of BAD); FULL: beyond DAY 99.");
        NewsShips none = new NewsShips();
        for (int n : new int[] {1, 20, 0, 21, -1, Check.LEAST, Check.MOST}) {
            due("no league: days(" + n + ")", none.days(n), STATE);
        }
        Check.read(none, "p1;");
        due("none by a faulty text", none.days(0), STATE);
        for (int n = 1; n <= 20; n++) {
            NewsShips x = Check.on(99 - n, "p2;w0,1,1;");
            x.happen(0);
            if (n < 20) {
                due("one too many", x.days(n + 1), FULL);
            }
            due("none went by", x.count(4), 99 - n);
            due("none was known", x.port(1, 0), 0);
            due("to day 99", x.days(n), n >= 3 ? 1 : 0);
            due("day 99", x.count(4), 99);
            due("beyond", x.days(1), FULL);
            due("beyond", x.days(20), FULL);
            due("BAD ahead of FULL", x.days(0), BAD);
            due("BAD ahead of FULL", x.days(21), BAD);
            due("day 99 still", x.count(4), 99);
            x.undo();
            due("a day is undone, so one can go by", x.days(1), n == 3 ? 1 : 0);
        }
    }

    private void undoing() {
        doc.promise(12, "The latest ACT is undone: how many can be undone yet. STATE: none.");
        due("no league", new NewsShips().undo(), STATE);
        NewsShips x = Check.with("p2;w0,1,2;t0;");
        due("no act", x.undo(), STATE);
        x.happen(0);
        x.sail(0, 0);
        x.days(2);
        due("known", x.knows(1, 0), 2);
        due("pence", x.ship(0, 2), 8);
        due("3 yet", x.undo(), 3);
        due("not known", x.knows(1, 0), NONE);
        due("no pence", x.ship(0, 2), 0);
        due("at sea", x.ship(0, 1), 1);
        due("2 yet", x.undo(), 2);
        due("day 0", x.count(4), 0);
        due("at sea", x.ship(0, 1), 2);
        due("1 yet", x.undo(), 1);
        due("in its port", x.ship(0, 0), 0);
        due("knows it", x.ship(0, 3), 1);
        due("none yet", x.undo(), 0);
        due("knows nothing", x.ship(0, 3) + x.port(0, 0), 0);
        due("no news", x.knows(0, 0), BAD);
        due("none", x.undo(), STATE);
        due("all again", x.happen(1), 0);
        due("in another port", x.knows(1, 0), 0);
        due("in another port", x.knows(0, 0), NONE);
    }

    private void questions() {
        doc.promise(13, "Of a SHIP: 0 its PORT (at sea: to which it goes), 1 in how many DAYS it is there (0: it is),"
            + " 2 PENCE, 3 NEWS that it knows (bits). BAD.");
        NewsShips x = Check.with("p3;w0,1,4;w1,2,5;t0;t2;b0;");
        Check.range("ship", 0, 2, v -> x.ship(v, 0));
        Check.range("what", 0, 3, v -> x.ship(0, v));
        x.happen(0);
        x.happen(0);
        x.sail(0, 0);
        for (int left = 4; left > 0; left--) {
            due("to which it goes", x.ship(0, 0), 1);
            due("in how many days", x.ship(0, 1), left);
            due("no pence at sea", x.ship(0, 2), 0);
            due("both news", x.ship(0, 3), 3);
            x.days(1);
        }
        for (int i = 0; i < 3; i++) {
            due("its port", x.ship(0, 0), 1);
            due("it is there", x.ship(0, 1), 0);
            due("pence", x.ship(0, 2), 12);
            x.days(1);
        }
        due("no ships", Check.with("p2;").ship(0, 0), BAD);

        doc.promise(14, "Of a PORT: 0 NEWS that it knows (bits), 1 SHIPS in it (bits). BAD.");
        NewsShips y = Check.with("p3;w0,1,4;t0;t0;t1;t0;");
        Check.range("port", 0, 2, v -> y.port(v, 0));
        Check.range("port", 0, 2, v -> y.port(v, 1));
        Check.range("what", 0, 1, v -> y.port(0, v));
        due("no news", y.port(0, 0), 0);
        for (int i = 0; i < 4; i++) {
            y.happen(i == 2 ? 1 : 0);
        }
        due("all but news 2", y.port(0, 0), 11);
        due("news 2", y.port(1, 0), 4);
        due("none", y.port(2, 0), 0);
        due("all but ship 2", y.port(0, 1), 11);
        due("ship 2", y.port(1, 1), 4);
        due("none", y.port(2, 1), 0);
        y.sail(3, 0);
        due("who sailed is in it no more", y.port(0, 1), 3);
        due("nor in the other", y.port(1, 1), 4);
        y.days(4);
        due("now it is", y.port(1, 1), 12);

        doc.promise(15, "Of NEWS: the DAY on which it began (what = 0), in which PORT (1). BAD.");
        Check.range("news", 0, 3, v -> y.news(v, 0));
        Check.range("what", 0, 1, v -> y.news(0, v));
        due("no news", Check.with("p2;").news(0, 0), BAD);
        due("day", y.news(3, 0), 0);
        due("port", y.news(2, 1), 1);
        NewsShips late = Check.on(99, "p6;");
        late.happen(5);
        due("day 99", late.news(0, 0), 99);
        due("port 5", late.news(0, 1), 5);
        due("no second", late.news(1, 0), BAD);

        doc.promise(16, "The DAY from which a PORT knows NEWS; NONE. BAD.");
        Check.range("port", 0, 2, v -> y.knows(v, 0));
        Check.range("news", 0, 3, v -> y.knows(0, v));
        due("where it began", y.knows(0, 3), 0);
        due("where a ship brought it", y.knows(1, 3), 4);
        due("where it did not come", y.knows(2, 3), NONE);
        due("no news", Check.with("p2;").knows(0, 0), BAD);
    }
}
