/** The edges that the document names for ORDERS that are FOLLOWED, sentence by sentence. */
final class EdgesOfOrders {
    private static final int BAD = NewsShips.BAD;
    private static final int NULL = -1000011, PLACE = -1000012;
    private static final int LEAST = Check.LEAST, MOST = Check.MOST;

    private final Doc doc;

    EdgesOfOrders(Doc doc) {
        this.doc = doc;
    }

    void test() {
        fromAPortOn();
        ways();
        ifs();
        waiting();
        ends();
        telling();
        calls();
        refused();
    }

    private static void due(String call, int got, int want) {
        Check.due(call, got, want);
    }

    private static void followed(NewsShips x, int ship, int day, int port, int news, int... orders) {
        Check.fill(x, 0, orders);
        StringBuilder call = new StringBuilder("ship " + ship + " by");
        for (int order : orders) {
            call.append(' ').append(order);
        }
        due(call + ", day", x.followed(ship, 0, 0, orders.length, 0), day);
        due(call + ", port", x.followed(ship, 0, 0, orders.length, 1), port);
        due(call + ", news", x.followed(ship, 0, 0, orders.length, 2), news);
    }

    private void fromAPortOn() {
        doc.terms("FOLLOWED by a SHIP, from when it is in a PORT, others SAILING no more: ORDERS (a row of ITEMS):");
        NewsShips x = Check.with("p3;w0,1,4;w1,2,3;t0;c0;t1;");
        followed(x, 0, 0, 0, 0);
        followed(x, 0, 1, 0, 0, 20);
        x.happen(1);
        x.sail(0, 0);
        followed(x, 0, 4, 1, 1);
        followed(x, 0, 5, 1, 1, 20);
        followed(x, 0, 7, 2, 1, 1);
        x.days(3);
        followed(x, 0, 4, 1, 1);
        x.days(1);
        followed(x, 0, 4, 1, 1);
        followed(x, 0, 4, 1, 1, 10, 20);
        // Others at sea come in, those in ports stay: the cutter brings nothing but when it is at sea.
        NewsShips others = Check.with("p2;w0,1,4;w0,1,9;t1;c0;");
        others.happen(0);
        followed(others, 0, 2, 1, 0, 20, 20);
        others.sail(1, 0);
        followed(others, 0, 1, 1, 0, 20);
        followed(others, 0, 2, 1, 1, 20, 20);
    }

    private void ways() {
        doc.terms("0 to 7: it SAILS that WAY (it waits till it is there); if that has no end in its PORT,"
            + " or there is none, all ends;");
        NewsShips x = Check.with("p6;w0,1,1;w1,2,2;w2,3,3;w3,4,4;w4,5,5;w5,0,6;w0,3,7;w5,1,8;t0;");
        followed(x, 0, 1, 1, 0, 0);
        followed(x, 0, 3, 2, 0, 0, 1);
        followed(x, 0, 6, 3, 0, 0, 1, 2);
        followed(x, 0, 15, 5, 0, 0, 1, 2, 3, 4);
        followed(x, 0, 21, 0, 0, 0, 1, 2, 3, 4, 5);
        followed(x, 0, 28, 3, 0, 0, 1, 2, 3, 4, 5, 6);
        followed(x, 0, 6, 5, 0, 5);
        followed(x, 0, 14, 1, 0, 5, 7);
        followed(x, 0, 2, 0, 0, 0, 0);
        for (int way = 1; way <= 4; way++) {
            followed(x, 0, 0, 0, 0, way);
            followed(x, 0, 0, 0, 0, way, 20, 0);
        }
        followed(x, 0, 0, 0, 0, 7, 0);
        followed(x, 0, 1, 1, 0, 0, 6, 20);
        NewsShips few = Check.with("p2;w0,1,1;t0;");
        followed(few, 0, 1, 1, 0, 0);
        for (int way = 1; way <= 7; way++) {
            followed(few, 0, 1, 1, 0, 0, way, 20, 0);
        }
        NewsShips none = Check.with("p2;t0;");
        followed(none, 0, 1, 0, 0, 20, 0, 20);
        followed(none, 0, 1, 0, 0, 20, 7, 20);
        String sorts = "tcbmg";
        int[] takes = {9, 5, 18, 8, 8};
        for (int sort = 0; sort < 5; sort++) {
            NewsShips one = Check.with("p2;w0,1,9;" + sorts.charAt(sort) + "0;");
            followed(one, 0, takes[sort], 1, 0, 0);
            followed(one, 0, 2 * takes[sort], 0, 0, 0, 0);
        }
    }

    private void ifs() {
        doc.terms("10 and a NEWS: if it knows it, the next ORDER is left out;");
        NewsShips x = Check.with("p2;w0,1,9;t0;t1;g0;");
        x.happen(0);
        x.happen(1);
        x.happen(0);
        due("it knows 0 and 2", x.ship(0, 3), 5);
        int[] left = {0, 1, 0, 1};
        for (int news = 0; news < 4; news++) {
            followed(x, 0, left[news], 0, 5, 10 + news, 20);
            followed(x, 0, left[news] + 1, 0, 5, 10 + news, 20, 20);
            followed(x, 2, 1, 0, 0, 10 + news, 20);
        }
        followed(x, 0, 0, 0, 5, 10);
        followed(x, 0, 0, 0, 5, 13);
        // An if that is left out leaves out nothing; one that is not known leaves the next as it is.
        followed(x, 0, 1, 0, 5, 10, 10, 20);
        followed(x, 0, 1, 0, 5, 10, 11, 20);
        followed(x, 0, 0, 0, 5, 11, 10, 20);
        followed(x, 0, 1, 0, 5, 11, 11, 20);
        // What is left out ends nothing.
        followed(x, 0, 1, 0, 5, 10, 7, 20);
        followed(x, 0, 0, 0, 5, 11, 7, 20);
        // It is known once it is told.
        NewsShips told = Check.with("p2;w0,1,1;t1;");
        told.happen(0);
        followed(told, 0, 2, 1, 0, 20, 20, 10);
        followed(told, 0, 3, 1, 1, 20, 20, 10, 20);
        followed(told, 0, 3, 1, 1, 20, 20, 20, 10, 20);
        followed(told, 0, 1, 0, 1, 0, 10, 20);
        followed(told, 0, 1, 0, 1, 10, 0, 10, 20);
    }

    private void waiting() {
        doc.terms("20: it waits a DAY.");
        NewsShips x = Check.with("p2;w0,1,1;t1;");
        x.happen(0);
        for (int n = 0; n <= 12; n++) {
            int[] orders = new int[n];
            java.util.Arrays.fill(orders, 20);
            followed(x, 0, n, 1, n < 3 ? 0 : 1, orders);
        }
    }

    private void ends() {
        doc.terms("(Behind the last one, or on DAY 150, all ends.)");
        NewsShips x = Check.on(99, "p2;w0,1,9;w0,1,1;t0;b0;");
        followed(x, 0, 99, 0, 0);
        followed(x, 0, 100, 0, 0, 20);
        // A trader is in 1 on day 144; five days more are day 149, six day 150.
        followed(x, 0, 144, 1, 0, 0, 0, 0, 0, 0);
        followed(x, 0, 149, 1, 0, 0, 0, 0, 0, 0, 20, 20, 20, 20, 20);
        followed(x, 0, 150, 1, 0, 0, 0, 0, 0, 0, 20, 20, 20, 20, 20, 20);
        followed(x, 0, 150, 1, 0, 0, 0, 0, 0, 0, 20, 20, 20, 20, 20, 20, 20);
        followed(x, 0, 150, 1, 0, 0, 0, 0, 0, 0, 20, 20, 20, 20, 20, 20, 0);
        // From day 149 on: there on day 150, or still at sea, to 0.
        followed(x, 0, 150, 0, 0, 0, 0, 0, 0, 0, 20, 20, 20, 20, 20, 1);
        followed(x, 0, 150, 0, 0, 0, 0, 0, 0, 0, 20, 20, 20, 20, 20, 1, 1);
        followed(x, 0, 150, 0, 0, 0, 0, 0, 0, 0, 20, 20, 20, 20, 20, 0);
        followed(x, 0, 150, 0, 0, 0, 0, 0, 0, 0, 20, 20, 20, 20, 20, 0, 0);
        // A barge is at sea from day 135 to 153.
        followed(x, 1, 135, 0, 0, 0, 0);
        followed(x, 1, 150, 1, 0, 0, 0, 0);
        followed(x, 1, 150, 1, 0, 0, 0, 0, 0);
        followed(x, 1, 150, 1, 0, 0, 0, 0, 20, 1);
        // A signal is in 2 on day 150: who comes in on that day knows it, who is still at sea doesn't.
        NewsShips late = Check.on(99, "p4;w0,1,9;w1,2,8;w2,3,9;w2,3,6;w2,3,7;t2;");
        late.happen(0);
        due("on day 150", late.ahead(2, 0), 150);
        followed(late, 0, 144, 3, 0, 2, 2, 2, 2, 2);
        followed(late, 0, 150, 2, 1, 2, 2, 2, 2, 2, 3);
        followed(late, 0, 150, 2, 0, 2, 2, 2, 2, 2, 4);
    }

    private void telling() {
        doc.terms("It tells what it knows on its way.");
        NewsShips x = Check.with("p3;w0,1,2;w1,2,2;t0;t1;");
        x.happen(0);
        followed(x, 0, 4, 2, 1, 0, 1);
        due("the other is told nothing of it", x.ship(1, 3), 0);
        due("nor is a port", x.port(1, 0) + x.port(2, 0), 0);
        due("nor has it pence", x.ship(0, 2), 0);
        due("nor is it another day", x.count(4), 0);
    }

    private void calls() {
        doc.promise(25, "FOLLOWED, n ORDERS (0 to 12) of a ROW from i on: the DAY in the end (what = 0), the PORT (1),"
            + " NEWS that it knows (2: bits).");
        NewsShips x = Check.with("p2;w0,1,2;t0;");
        x.happen(0);
        x.happen(1);
        x.row(0, 0, 40);
        for (int i = 0; i < 40; i++) {
            x.set(0, i, i % 4 == 0 ? 0 : 20);
        }
        due("none: the day", x.followed(0, 0, 0, 0, 0), 0);
        due("none: the port", x.followed(0, 0, 0, 0, 1), 0);
        due("none: the news", x.followed(0, 0, 0, 0, 2), 1);
        due("one from 0 on", x.followed(0, 0, 0, 1, 0), 2);
        due("one from 0 on, the port", x.followed(0, 0, 0, 1, 1), 1);
        due("one from 0 on, both news", x.followed(0, 0, 0, 1, 2), 3);
        due("one from 1 on", x.followed(0, 0, 1, 1, 0), 1);
        due("12 from 0 on", x.followed(0, 0, 0, 12, 0), 15);
        due("12 from 0 on, the port", x.followed(0, 0, 0, 12, 1), 1);
        due("12 to the end", x.followed(0, 0, 28, 12, 0), 15);
        due("the last", x.followed(0, 0, 39, 1, 0), 1);
        due("none at the end", x.followed(0, 0, 40, 0, 0), 0);
    }

    private void refused() {
        doc.promise(25, "BAD: SHIP, ROW, n, what; NULL; PLACE;");
        NewsShips x = Check.with("p2;w0,1,2;t0;t0;");
        for (int row = 0; row < 8; row++) {
            x.row(row, row % 3, 40);
        }
        Check.range("ship", 0, 1, v -> x.followed(v, 0, 0, 1, 0));
        Check.range("row", 0, 7, v -> x.followed(0, v, 0, 1, 0));
        Check.range("n", 0, 12, v -> x.followed(0, 0, 0, v, 0));
        Check.range("what", 0, 2, v -> x.followed(0, 0, 0, 1, v));
        x.drop(7);
        due("missing", x.followed(0, 7, 0, 0, 0), NULL);
        due("missing, ahead of PLACE", x.followed(0, 7, -1, 0, 0), NULL);
        due("a BAD ship ahead of NULL", x.followed(2, 7, 0, 0, 0), BAD);
        due("a BAD n ahead of NULL", x.followed(0, 7, 0, 13, 0), BAD);
        due("a BAD what ahead of NULL", x.followed(0, 7, 0, 0, 3), BAD);
        due("a BAD what ahead of PLACE", x.followed(0, 0, -1, 0, 3), BAD);
        due("the last that has room", x.followed(0, 0, 28, 12, 0), 24);
        due("beyond the end", x.followed(0, 0, 29, 12, 0), PLACE);
        due("the last", x.followed(0, 0, 39, 1, 0), 2);
        due("beyond it", x.followed(0, 0, 40, 1, 0), PLACE);
        due("none beyond it", x.followed(0, 0, 41, 0, 0), PLACE);
        due("i = -1", x.followed(0, 0, -1, 1, 0), PLACE);
        due("i = -1 of none", x.followed(0, 0, -1, 0, 0), PLACE);
        for (int far : new int[] {LEAST, MOST, MOST - 11, LEAST + 11}) {
            due("i = " + far, x.followed(0, 0, far, 12, 0), PLACE);
        }
        x.row(6, 0, 0);
        due("an empty row", x.followed(0, 6, 0, 0, 0), 0);
        due("an empty row", x.followed(0, 6, 0, 1, 0), PLACE);
        due("no ships", Check.with("p2;").followed(0, 0, 0, 0, 0), BAD);

        doc.promise(25, "then BAD: an ITEM that is no ORDER (NEWS: 10 to 13).");
        for (int item = -3; item <= 25; item++) {
            boolean order = item >= 0 && item <= 7 || item >= 10 && item <= 13 || item == 20;
            Check.fill(x, 5, item, 20);
            due(item + " as the first", x.followed(0, 5, 0, 2, 0), !order ? BAD : item == 0 ? 3 : item == 20 ? 2 : item < 8 ? 0 : 1);
            Check.fill(x, 5, 20, item);
            due(item + " as the last", x.followed(0, 5, 0, 2, 0), !order ? BAD : item == 0 ? 3 : item == 20 ? 2 : 1);
            due(item + " behind the last", x.followed(0, 5, 0, 1, 0), 1);
            Check.fill(x, 5, 7, item);
            due(item + " behind the end of all", x.followed(0, 5, 0, 2, 0), order ? 0 : BAD);
            due("PLACE ahead of " + item, x.followed(0, 5, 0, 3, 0), PLACE);
        }
        for (int item : new int[] {LEAST, MOST, 256, -256}) {
            Check.fill(x, 5, item);
            due("item " + item, x.followed(0, 5, 0, 1, 0), BAD);
        }
        Check.fillAs(x, 5, 0, 256 + 20);
        due("a byte that is cut to 20", x.followed(0, 5, 0, 1, 0), 1);
        NewsShips know = Check.with("p2;t0;");
        know.happen(0);
        Check.fill(know, 0, 10, 9);
        due("an item that is left out must be an order, too", know.followed(0, 0, 0, 2, 0), BAD);
    }
}
