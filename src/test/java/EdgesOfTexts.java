/** The edges that the document names for TEXTS, sentence by sentence. */
final class EdgesOfTexts {
    private static final int NONE = NewsShips.NONE, BAD = NewsShips.BAD, STATE = NewsShips.STATE, FULL = NewsShips.FULL;
    private static final int FAULT = -1000100;

    private final Doc doc;

    EdgesOfTexts(Doc doc) {
        this.doc = doc;
    }

    void test() {
        aNewObject();
        theTape();
        feeding();
        tokens();
        ports();
        ways();
        ships();
        aLeagueInPlaceOfOne();
        faults();
        numbersNotAsTold();
        noRoom();
        reading();
        latestFault();
    }

    private static void due(String call, int got, int want) {
        Check.due(call, got, want);
    }

    private static void well(String text, int ports, int ways, int ships) {
        NewsShips x = new NewsShips();
        due(text, Check.read(x, text), ports);
        due(text + ": ports", x.count(1), ports);
        due(text + ": ways", x.count(2), ways);
        due(text + ": ships", x.count(3), ships);
        due(text + ": no fault", x.fault(), 0);
        due(text + ": the tape is empty", x.count(8), 0);
    }

    private static void faulty(String text, int place, int number) {
        NewsShips x = new NewsShips();
        due(text, Check.read(x, text), FAULT - place);
        due(text + ": fault", x.fault(), number);
        due(text + ": no league", x.count(1) + x.count(2) + x.count(3), 0);
        due(text + ": the tape is empty", x.count(8), 0);
    }

    private void aNewObject() {
        doc.promise(1, "No LEAGUE.");
        NewsShips x = new NewsShips();
        for (int what = 0; what <= 8; what++) {
            due("count(" + what + ")", x.count(what), 0);
        }
        due("fault", x.fault(), 0);
        due("status", x.status(), 0);
        due("trace", x.trace(0), NONE);
        due("happen", x.happen(0), BAD);
        due("sail", x.sail(0, 0), BAD);
        due("days", x.days(1), STATE);
        due("undo", x.undo(), STATE);
        due("ship", x.ship(0, 0), BAD);
        due("port", x.port(0, 0), BAD);
        due("news", x.news(0, 0), BAD);
        due("knows", x.knows(0, 0), BAD);
        due("takes", x.takes(0, 0), BAD);
        due("ahead", x.ahead(0, 0), BAD);
        due("carried", x.carried(0, 0, 0), BAD);
        due("fame", x.fame(0, 0, 0, 0), BAD);
        due("overtaken", x.overtaken(0, 0, 0), BAD);
        due("sure", x.sure(0, 0), BAD);
        due("began", x.began(0, 0, 0), STATE);
        due("odds", x.odds(0, 0, 0, 0, 0), BAD);
        due("followed", x.followed(0, 0, 0, 0, 0), BAD);
        due("image", x.image(0), STATE);
        due("restore", x.restore(0), STATE);
        due("kind", x.kind(0), BAD);
        due("as", x.as(0, 0), BAD);
        due("ask", x.ask(0, 0), BAD);
        due("an empty tape", x.league(), FAULT);
    }

    private void theTape() {
        doc.terms("TEXTS: THE TAPE has at most 120 bytes, that come one by one;");
        NewsShips x = new NewsShips();
        due("none at first", x.count(8), 0);
        for (int i = 1; i <= 120; i++) {
            due("byte " + i, x.feed(' '), i);
            due("bytes", x.count(8), i);
        }
        due("one more", x.feed('p'), FULL);
        due("bytes", x.count(8), 120);
        due("all are read", x.league(), FAULT);
        due("empty", x.count(8), 0);
        due("from the first on again", x.feed('p'), 1);

        // The longest league has 100 bytes, so what stands behind it is a fault just there.
        String longest = "p06;" + "w00,05,09;".repeat(8) + "t00;c01;b02;g05;";
        Check.holds("100 bytes", longest.length() == 100);
        well(longest, 6, 8, 4);
        faulty(longest + ";", 100, 1);
        faulty(longest + " ".repeat(20), 100, 1);
        faulty(longest + "t".repeat(20), 100, 3);
        String figures = "p2;w0,1,1;t" + "0".repeat(109);
        Check.holds("120 bytes", figures.length() == 120);
        faulty(figures, 11, 1);
        NewsShips cut = new NewsShips();
        Check.feed(cut, " ".repeat(120) + "p2;");
        due("bytes behind a full tape never come", cut.league(), FAULT);
        due("bytes behind a full tape never come", cut.league(), FAULT);
    }

    private void feeding() {
        doc.promise(6, "A byte (0 to 255) comes behind the tape: how many it has. BAD; FULL.");
        NewsShips x = new NewsShips();
        for (int bad : new int[] {-1, 256, Check.LEAST, Check.MOST}) {
            due("feed(" + bad + ")", x.feed(bad), BAD);
        }
        due("nothing came", x.count(8), 0);
        due("feed(0)", x.feed(0), 1);
        due("feed(255)", x.feed(255), 2);
        for (int i = 3; i <= 119; i++) {
            x.feed('p');
        }
        due("the last that has room", x.feed(';'), 120);
        due("full", x.feed(0), FULL);
        due("full", x.feed(255), FULL);
        due("BAD ahead of FULL", x.feed(-1), BAD);
        due("BAD ahead of FULL", x.feed(256), BAD);
        due("as many as before", x.count(8), 120);
    }

    private void tokens() {
        doc.terms("TOKENS: letters a to z (each by itself), NUMBERS (figures, 2 at most), SIGNS , and ;"
            + " nothing else, no blanks.");
        for (int b = 0; b < 256; b++) {
            if (b != 'p') {
                faulty(String.valueOf((char) b) + "2;", 0, 1);
            }
            if (b < '0' || b > '9') {
                faulty("p" + (char) b + "2;", 1, 1);
            }
            if (b != ';' && (b < '0' || b > '9')) {
                faulty("p2" + (char) b, 2, 1);
            }
            // A figure makes three of them with its neighbours, which are no token.
            boolean figure = b >= '0' && b <= '9';
            if (b != ',') {
                faulty("p2;w1" + (char) b + "0,1;", figure ? 4 : 5, 1);
            }
            if ("wtcbmg".indexOf(b) < 0) {
                faulty("p2;" + (char) b, 3, 1);
            }
        }
        faulty("pp2;", 1, 1);
        faulty("p2;ww0,1,1;", 4, 1);
        faulty("p2;tt0;", 4, 1);
        faulty("p2;tc0;", 4, 1);
        well("p2;", 2, 0, 0);
        well("p02;", 2, 0, 0);
        faulty("p002;", 1, 1);
        faulty("p0002;", 1, 1);
        well("p2;w0,1,9;", 2, 1, 0);
        well("p2;w0,1,09;", 2, 1, 0);
        faulty("p2;w0,1,009;", 8, 1);
        faulty("p2;w0,1,100;", 8, 1);
        faulty("p2;w0,001,1;", 6, 1);
        faulty("p2;w000,1,1;", 4, 1);
        well("p2;t01;", 2, 0, 1);
        faulty("p2;t001;", 4, 1);
        faulty("p2;t99999999999;", 4, 1);
        faulty("p4294967298;", 1, 1);
        // Three figures are no token wherever they stand, where a text may end, too.
        faulty("123", 0, 1);
        faulty("p2123", 1, 1);
        faulty("p2;123", 3, 1);
        faulty("p2;000", 3, 1);
        faulty("p2;w0,1,1;123", 10, 1);
        faulty("p2;t0;123", 6, 1);
        faulty("p2;t0;123;", 6, 1);
        faulty("p2;t0;t0;t0;t0;123", 15, 1);
        faulty(" p2;", 0, 1);
        faulty("p 2;", 1, 1);
        faulty("p2 ;", 2, 1);
        faulty("p2; ", 3, 1);
        faulty("p2;w0, 1,1;", 6, 1);
        faulty("p2;\n", 3, 1);
        faulty("p-2;", 1, 1);
        faulty("p+2;", 1, 1);
    }

    private void ports() {
        doc.terms("league: p PORTS ; { way } { ship }. (PORTS 2 to 6, from 0 on.)");
        faulty("p0;", 1, 2);
        faulty("p1;", 1, 2);
        for (int ports = 2; ports <= 6; ports++) {
            well("p" + ports + ";", ports, 0, 0);
            NewsShips x = Check.with("p" + ports + ";");
            Check.range("port of " + ports, 0, ports - 1, v -> x.port(v, 0));
        }
        faulty("p7;", 1, 2);
        faulty("p9;", 1, 2);
        faulty("p10;", 1, 2);
        faulty("p99;", 1, 2);
        well("p3;w0,1,1;", 3, 1, 0);
        well("p3;t1;", 3, 0, 1);
        well("p3;w0,1,1;w1,2,1;t1;t2;", 3, 2, 2);
        faulty("p3;t1;w0,1,1;", 6, 1);
        faulty("p3;w0,1,1;t1;w1,2,1;", 13, 1);
        faulty("w0,1,1;", 0, 1);
        faulty("t0;", 0, 1);
        faulty("p3;p3;", 3, 1);
        faulty("p3;w0,1,1;p3;", 10, 1);
    }

    private void ways() {
        doc.terms("way: w A , B , DAYS ; (unlike PORTS; 1 to 9; WAYS 0 .. 7, 8 at most; for both directions).");
        for (int a = 0; a < 8; a++) {
            for (int b = 0; b < 8; b++) {
                String text = "p6;w" + a + "," + b + ",5;";
                if (a > 5) {
                    faulty(text, 4, 2);
                } else if (b > 5 || a == b) {
                    faulty(text, 6, 2);
                } else {
                    well(text, 6, 1, 0);
                }
            }
        }
        faulty("p6;w1,01,5;", 6, 2);
        faulty("p6;w01,1,5;", 7, 2);
        for (int days = 0; days <= 11; days++) {
            String text = "p2;w0,1," + days + ";";
            if (days >= 1 && days <= 9) {
                well(text, 2, 1, 0);
                due(text + " by a trader", Check.with(text + "t0;").takes(0, 0), days);
            } else {
                faulty(text, 8, 2);
            }
        }
        for (int ways = 0; ways <= 9; ways++) {
            String text = "p2;" + "w0,1,1;".repeat(ways);
            if (ways <= 8) {
                well(text, 2, ways, 0);
                NewsShips x = Check.with(text + "t0;");
                due("way " + ways + " is none", x.takes(0, ways), BAD);
                due("way -1 is none", x.takes(0, -1), BAD);
                due("the last way", ways == 0 ? 1 : x.takes(0, ways - 1), 1);
            } else {
                faulty(text, 59, 3);
            }
        }
        NewsShips both = Check.with("p3;w2,0,4;w0,1,5;t0;t2;");
        due("from its second to its first", both.sail(0, 0), 4);
        due("to its first", both.ship(0, 0), 2);
        due("from its first to its second", both.sail(1, 0), 4);
        due("to its second", both.ship(1, 0), 0);
        for (int from = 0; from < 2; from++) {
            NewsShips signals = Check.with("p2;w0,1,1;");
            signals.happen(from);
            signals.days(3);
            due("a signal from " + from, signals.knows(1 - from, 0), 3);
        }
    }

    private void ships() {
        doc.terms("ship: SORT PORT ; (SORT: t a trader, c a cutter, b a barge, m a courier, g a ghost;"
            + " SHIPS 0 .. 3, 4 at most).");
        String sorts = "tcbmg";
        for (int sort = 0; sort < 5; sort++) {
            for (int port = 0; port < 8; port++) {
                String text = "p6;" + sorts.charAt(sort) + port + ";";
                if (port < 6) {
                    well(text, 6, 0, 1);
                    NewsShips x = Check.with(text);
                    due(text + " its kind", x.kind(0), sort + 1);
                    due(text + " its port", x.ship(0, 0), port);
                } else {
                    faulty(text, 4, 2);
                }
            }
        }
        for (char other = 'a'; other <= 'z'; other++) {
            if (sorts.indexOf(other) < 0 && other != 'w') {
                faulty("p2;" + other + "0;", 3, 1);
            }
        }
        for (int ships = 0; ships <= 5; ships++) {
            String text = "p2;" + "g1;".repeat(ships);
            if (ships <= 4) {
                well(text, 2, 0, ships);
                NewsShips x = Check.with(text);
                due("ship " + ships + " is none", x.kind(ships), BAD);
                due("ship -1 is none", x.kind(-1), BAD);
                due("the last ship", ships == 0 ? 5 : x.kind(ships - 1), 5);
            } else {
                faulty(text, 15, 3);
            }
        }
        NewsShips inTurn = Check.with("p6;m5;b4;c3;t2;");
        for (int s = 0; s < 4; s++) {
            due("kind of ship " + s, inTurn.kind(s), 4 - s);
            due("port of ship " + s, inTurn.ship(s, 0), 5 - s);
        }
    }

    private void aLeagueInPlaceOfOne() {
        doc.terms("A LEAGUE that is read stands in place of the one before (none at first): DAY 0,"
            + " all SHIPS are in their PORTS, have 0 PENCE; there is no NEWS; no ACT can be undone.");
        NewsShips x = new NewsShips();
        due("none at first", x.count(1), 0);
        Check.read(x, "p6;w0,1,1;w1,2,2;w2,3,3;w3,4,4;w4,5,5;t0;c0;b0;m0;");
        x.happen(0);
        for (int s = 0; s < 4; s++) {
            x.sail(s, 0);
        }
        x.days(1);
        x.sail(0, 1);
        x.sail(1, 0);
        due("one has pence", x.ship(0, 2), 9);
        due("two at sea", x.count(6), 3);
        due("the same text again", Check.read(x, "p6;w0,1,1;w1,2,2;w2,3,3;w3,4,4;w4,5,5;t0;c0;b0;m0;"), 6);
        standsNew(x, 6, 5, 4);
        due("the same again", x.happen(0), 0);
        x.days(1);
        due("a smaller one", Check.read(x, "p2;w1,0,9;g1;"), 2);
        standsNew(x, 2, 1, 1);
        due("its ghost", x.kind(0), 5);
        due("its port", x.ship(0, 0), 1);
        due("its way", x.takes(0, 0), 8);
        due("no port 2", x.port(2, 0), BAD);
        due("no way 1", x.takes(0, 1), BAD);
        due("no ship 1", x.kind(1), BAD);
        due("one without ways and ships", Check.read(x, "p3;"), 3);
        standsNew(x, 3, 0, 0);
        due("a larger one", Check.read(x, "p6;t5;t4;t3;t2;"), 6);
        standsNew(x, 6, 0, 4);
    }

    private static void standsNew(NewsShips x, int ports, int ways, int ships) {
        int[] counts = {0, ports, ways, ships, 0, 0, 0, 0, 0};
        for (int what = 0; what < counts.length; what++) {
            due("count(" + what + ")", x.count(what), counts[what]);
        }
        due("no act", x.undo(), STATE);
        due("no news", x.news(0, 0), BAD);
        for (int s = 0; s < ships; s++) {
            due("in its port", x.ship(s, 1), 0);
            due("no pence", x.ship(s, 2), 0);
            due("knows nothing", x.ship(s, 3), 0);
        }
        for (int p = 0; p < ports; p++) {
            due("nothing known", x.port(p, 0), 0);
        }
    }

    private void faults() {
        doc.terms("FAULTS, the first TOKEN that has one (its first byte), of one TOKEN the least:"
            + " 1 it cannot stand there, or is none (the end: how many bytes there are);");
        String whole = "p3;w0,1,9;t2;";
        for (int bytes = 0; bytes < whole.length(); bytes++) {
            if (bytes == 3 || bytes == 10) {
                well(whole.substring(0, bytes), 3, bytes == 10 ? 1 : 0, 0);
            } else {
                faulty(whole.substring(0, bytes), bytes, 1);
            }
        }
        well(whole, 3, 1, 1);
        // Each token once more: one that can't stand behind itself.
        for (int at = 0; at < whole.length(); at++) {
            String text = whole.substring(0, at) + whole.charAt(at) + whole.substring(at);
            boolean figure = Character.isDigit(whole.charAt(at));
            if (!figure) {
                faulty(text, at + 1, 1);
            }
        }
        // Each token in place of each: its place is where it begins.
        String[] tokens = {"p", "3", ";", "w", "0", ",", "1", ",", "9", ";", "t", "2", ";"};
        for (int k = 0; k < tokens.length; k++) {
            StringBuilder text = new StringBuilder();
            for (int i = 0; i < tokens.length; i++) {
                text.append(i == k ? "?" : tokens[i]);
            }
            faulty(text.toString(), k, 1);
        }
        faulty("p77", 1, 2);
        faulty("p7?", 1, 2);
        faulty("p3?w7", 2, 1);
        faulty("p3;w3,3,0;t9;", 4, 2);
        faulty("p3;w0,3,0;t9;", 6, 2);
        faulty("p3;w0,1,0;t9;", 8, 2);
        faulty("p3;w0,1,1;t9;", 11, 2);
        faulty("p3;77", 3, 1);
        faulty("77", 0, 1);
        faulty("p3;w77,1,1;", 4, 2);
        faulty("p3;w0,77,1;", 6, 2);
        faulty("p3;w00,77,1;", 7, 2);
        faulty("p03;w00,01,77;", 11, 2);
        faulty("p03;w00,01,07", 13, 1);
        faulty("p03;w00,01,07,", 13, 1);
        faulty("p03;w00,01,07;t77;", 15, 2);
        faulty("p03;w00,01,07;t07", 15, 2);
        faulty("p03;w00,01,07;t02", 17, 1);
        String ships = "p2;t0;t0;t0;t0;";
        faulty(ships + "w0,1,1;", 15, 1);
        faulty("p2;" + "w0,1,1;".repeat(8) + "t0;w0,1,1;", 62, 1);
    }

    private void numbersNotAsTold() {
        doc.terms("2 a NUMBER that is not as told;");
        for (int n = 0; n < 100; n++) {
            String two = (n < 10 ? "0" : "") + n;
            if (n < 2 || n > 6) {
                faulty("p" + n + ";", 1, 2);
                faulty("p" + two + ";", 1, 2);
            } else {
                well("p" + two + ";", n, 0, 0);
            }
            if (n > 2) {
                faulty("p3;t" + n + ";", 4, 2);
                faulty("p3;w" + two + ",1,1;", 4, 2);
            }
            if (n > 2 || n == 1) {
                faulty("p3;w1," + two + ",1;", 6, 2);
            }
            if (n < 1 || n > 9) {
                faulty("p3;w1,0," + two + ";", 8, 2);
            }
        }
    }

    private void noRoom() {
        doc.terms("3 a way, a ship more than there is room for (its letter).");
        String ways = "p2;" + "w0,1,1;".repeat(8);
        well(ways, 2, 8, 0);
        faulty(ways + "w", 59, 3);
        faulty(ways + "w0,1,1;", 59, 3);
        faulty(ways + "w9", 59, 3);
        faulty(ways + "x", 59, 1);
        faulty(ways + "t0;w", 62, 1);
        for (char sort : "tcbmg".toCharArray()) {
            String ships = "p2;" + (sort + "0;").repeat(4);
            well(ships, 2, 0, 4);
            for (char more : "tcbmg".toCharArray()) {
                faulty(ships + more, 15, 3);
                faulty(ships + more + "0;", 15, 3);
                faulty(ships + more + "?", 15, 3);
            }
            faulty(ships + "w", 15, 1);
        }
        faulty(ways + "t0;t0;t0;t0;t0;", 71, 3);
    }

    private void reading() {
        doc.promise(7, "The tape, empty then, is read: how many PORTS there are."
            + " -1000100 less the place of a FAULT: all stays.");
        NewsShips x = new NewsShips();
        Check.feed(x, "p5;t0;");
        due("bytes", x.count(8), 6);
        due("read", x.league(), 5);
        due("empty", x.count(8), 0);
        due("empty, so it ends at once", x.league(), FAULT);
        due("all stays", x.count(1) * 10 + x.count(3), 51);
        x.happen(4);
        x.days(2);
        x.image(1);
        Check.feed(x, "p7;");
        due("a fault", x.league(), FAULT - 1);
        due("empty behind a fault, too", x.count(8), 0);
        int[] counts = {0, 5, 0, 1, 2, 1, 0, 3, 0};
        for (int what = 0; what < counts.length; what++) {
            due("all stays: count(" + what + ")", x.count(what), counts[what]);
        }
        due("all stays: knows", x.knows(4, 0), 0);
        due("all stays: undo", x.undo(), 2);
        due("all stays: the image", x.restore(1), 1);
        due("the next text is read by itself", Check.read(x, "p4;"), 4);
        due("the place is 0 at least", Check.read(x, "?"), FAULT);
        due("read again", Check.read(x, "p2;"), 2);
    }

    private void latestFault() {
        doc.promise(8, "The number of the latest FAULT; 0 before one.");
        NewsShips x = new NewsShips();
        due("before one", x.fault(), 0);
        Check.read(x, "p2;");
        due("a text without one", x.fault(), 0);
        Check.read(x, "p2;t0;t0;t0;t0;t0;");
        due("no room", x.fault(), 3);
        Check.read(x, "p2;t2;");
        due("not as told", x.fault(), 2);
        Check.read(x, "p2;t");
        due("the end", x.fault(), 1);
        Check.read(x, "p2;");
        due("still the latest", x.fault(), 1);
        x.row(0, 0, -1);
        due("a finding is no fault", x.fault(), 1);
    }
}
