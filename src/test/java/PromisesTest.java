/** Each promise by hand: ordinary inputs, the edges that the document names, wrong inputs. */
public final class PromisesTest {
    private static final int NONE = NewsShips.NONE, BAD = NewsShips.BAD, STATE = NewsShips.STATE, FULL = NewsShips.FULL;
    private static final int NULL = -1000011, PLACE = -1000012, KIND = -1000013, SIZE = -1000014, STORE = -1000015;
    private static final int LEAST = Integer.MIN_VALUE, MOST = Integer.MAX_VALUE;

    // A line of four ports: 0 -2- 1 -3- 2 -1- 3, by signals 6, 9 and 3 days.
    private static final String LINE = "p4;w0,1,2;w1,2,3;w2,3,1;";

    public static void main(String[] args) {
        promise1();
        promise2();
        promise3();
        promise4();
        promise5();
        promise6();
        promise7();
        promise8();
        promise9();
        promise10();
        promise11();
        promise12();
        promise13();
        promise14to16();
        promise17();
        promise18();
        promise19();
        promise20();
        promise21();
        promise22();
        promise23();
        promise24();
        promise25();
        promise26and27();
        promise28and29();
        promise30and31();
        promise32();
        promise33();
        Check.end("PromisesTest");
    }

    private static void due(String call, int got, int want) {
        Check.due(call, got, want);
    }

    private static void promise1() {
        NewsShips x = new NewsShips();
        for (int what = 0; what <= 8; what++) {
            due("1: count " + what, x.count(what), 0);
        }
        due("1: status", x.status(), 0);
        due("1: fault", x.fault(), 0);
        due("1: days", x.days(1), STATE);
        due("1: days, ahead of BAD", x.days(0), STATE);
        due("1: began, ahead of BAD", x.began(9, 0, 0), STATE);
        due("1: image", x.image(0), STATE);
        due("1: restore", x.restore(1), STATE);
        due("1: undo", x.undo(), STATE);
        due("1: no port", x.port(0, 0), BAD);
        due("1: trace", x.trace(0), NONE);
    }

    private static void promise2() {
        NewsShips x = new NewsShips();
        due("2: row", x.row(0, 0, 0), 0);
        due("2: row", x.row(7, 2, 40), 40);
        due("2: count", x.count(0), 2);
        due("2: row 8", x.row(8, 0, 1), BAD);
        due("2: row -1", x.row(-1, 0, 1), BAD);
        due("2: lane 3", x.row(0, 3, 1), BAD);
        due("2: lane -1", x.row(0, -1, 1), BAD);
        due("2: 41", x.row(0, 0, 41), BAD);
        due("2: fewer than none", x.row(0, 0, -1), SIZE);
        due("2: fewer than none", x.row(0, 0, LEAST), SIZE);
        due("2: BAD comes first", x.row(0, 3, -1), BAD);
        due("2: found, so it stays", x.set(0, 0, 1), PLACE);
        due("2: set", x.set(7, 39, 5), 5);
        due("2: in place of what is there", x.row(7, 1, 2), 2);
        due("2: shorter now", x.set(7, 2, 0), PLACE);
        x.row(7, 2, 40);
        x.row(6, 2, 1);
        Check.read(x, LINE);
        x.copy(7, 39, 6, 0, 1);
        x.row(5, 2, 2);
        x.copy(6, 0, 5, 1, 1);
        due("2: 0 at first, so day 0 in port 0", x.began(5, 0, 1), 1);
    }

    private static void promise3() {
        NewsShips x = new NewsShips();
        x.row(0, 0, 3);
        x.row(1, 1, 3);
        x.row(2, 2, 3);
        due("3: byte", x.set(0, 0, 127), 127);
        due("3: byte", x.set(0, 1, 128), -128);
        due("3: byte", x.set(0, 2, 256), 0);
        due("3: byte", x.set(0, 0, -129), 127);
        due("3: short", x.set(1, 0, 32768), -32768);
        due("3: short", x.set(1, 1, 65536 + 9), 9);
        due("3: int", x.set(2, 2, MOST), MOST);
        due("3: int", x.set(2, 2, LEAST), LEAST);
        due("3: place 3", x.set(0, 3, 1), PLACE);
        due("3: place -1", x.set(0, -1, 1), PLACE);
        due("3: place far off", x.set(0, MOST, 1), PLACE);
        due("3: missing", x.set(3, 0, 1), NULL);
        due("3: missing ahead of place", x.set(3, -1, 1), NULL);
        due("3: row 8", x.set(8, 0, 1), BAD);
        due("3: row -1", x.set(-1, 0, 1), BAD);
    }

    private static void promise4() {
        NewsShips x = Check.with(LINE);
        Check.fill(x, 0, 3, 12, 2, 9, 1, 0);
        Check.fill(x, 1, 0, 0, 0, 0, 0, 0, 0, 0);
        due("4: copy", x.copy(0, 2, 1, 4, 4), 4);
        due("4: they came: 2 on day 9, 1 on day 0", x.began(1, 4, 2), 1 << 1);
        due("4: they stay", x.began(0, 0, 3), 1 << 1);
        due("4: upon itself, behind", x.copy(0, 0, 0, 2, 4), 4);
        due("4: as they were ahead: 3 on day 12, again, 2 on day 9", x.began(0, 0, 3), 1 << 1 | 1 << 2);
        due("4: upon itself, ahead", x.copy(0, 2, 0, 0, 4), 4);
        due("4: as they were ahead", x.began(0, 0, 2), 1 << 1 | 1 << 2);
        due("4: none", x.copy(0, 6, 1, 8, 0), 0);
        due("4: none, beyond an end", x.copy(0, 7, 1, 8, 0), PLACE);
        due("4: beyond an end of a", x.copy(0, 3, 1, 0, 4), PLACE);
        due("4: beyond an end of b", x.copy(0, 0, 1, 6, 3), PLACE);
        due("4: i below 0", x.copy(0, -1, 1, 0, 1), PLACE);
        due("4: j below 0", x.copy(0, 0, 1, -1, 1), PLACE);
        due("4: n below 0", x.copy(0, 1, 1, 1, -1), PLACE);
        due("4: n far off", x.copy(0, 1, 1, 1, MOST), PLACE);
        due("4: i far off", x.copy(0, MOST, 1, 1, 2), PLACE);
        x.row(2, 1, 3);
        due("4: two lanes", x.copy(0, 0, 2, 0, 1), STORE);
        due("4: two lanes ahead of places", x.copy(0, -1, 2, 0, 1), STORE);
        due("4: a missing", x.copy(5, 0, 2, 0, 1), NULL);
        due("4: b missing, ahead of all", x.copy(0, -1, 5, 0, 1), NULL);
        due("4: row a", x.copy(8, 0, 0, 0, 1), BAD);
        due("4: row b, ahead of NULL", x.copy(5, 0, -1, 0, 1), BAD);
    }

    private static void promise5() {
        NewsShips x = new NewsShips();
        x.row(3, 1, 7);
        due("5: drop", x.drop(3), 7);
        due("5: it is missing", x.drop(3), NULL);
        due("5: count", x.count(0), 0);
        due("5: row 8", x.drop(8), BAD);
        due("5: row -1", x.drop(-1), BAD);
        x.row(3, 1, 0);
        due("5: none in it", x.drop(3), 0);
    }

    private static void promise6() {
        NewsShips x = new NewsShips();
        due("6: -1", x.feed(-1), BAD);
        due("6: 256", x.feed(256), BAD);
        for (int i = 1; i <= 120; i++) {
            due("6: feed", x.feed(i % 2 == 0 ? 0 : 255), i);
        }
        due("6: full", x.feed(0), FULL);
        due("6: BAD ahead of FULL", x.feed(256), BAD);
        due("6: count", x.count(8), 120);
        due("6: read", x.league(), -1000100);
        due("6: empty again", x.feed('p'), 1);
    }

    private static void faulty(String text, int place, int number) {
        NewsShips x = Check.with(LINE + "t1;");
        x.happen(0);
        x.days(2);
        due("7: " + text, Check.read(x, text), -1000100 - place);
        due("8: " + text, x.fault(), number);
        due("7: the tape is empty behind " + text, x.count(8), 0);
        due("7: all stays behind " + text, x.count(1) * 1000 + x.count(3) * 100 + x.count(4) * 10 + x.count(7), 4123);
    }

    private static void promise7() {
        NewsShips x = new NewsShips();
        due("7: the least", Check.read(x, "p2;"), 2);
        due("7: the most", Check.read(x, "p6;"), 6);
        due("7: figures", Check.read(x, "p03;w00,02,09;g02;"), 3);
        due("7: ways", x.count(2), 1);
        due("7: days of it", x.takes(0, 0), 8);
        due("7: ships", x.count(3), 1);
        due("7: all there is room for", Check.read(x,
            "p6;w0,1,1;w1,0,9;w0,1,1;w2,3,4;w3,4,5;w4,5,6;w5,0,7;w1,4,8;t0;c1;b2;m5;"), 6);
        due("7: ways", x.count(2), 8);
        due("7: ships", x.count(3), 4);
        x.happen(0);
        x.sail(0, 0);
        x.days(3);
        x.ask(0, 0);
        due("7: a league in place of one", Check.read(x, LINE + "t1;"), 4);
        due("7: its ways", x.count(2), 3);
        due("7: its ships", x.count(3), 1);
        due("7: day 0", x.count(4), 0);
        due("7: no news", x.count(5), 0);
        due("7: none at sea", x.count(6), 0);
        due("7: no act", x.count(7), 0);
        due("7: no act", x.undo(), STATE);
        due("7: no pence", x.ship(0, 2), 0);
        due("7: knows none", x.ship(0, 3), 0);
        due("7: no news known", x.happen(3), 0);
        due("7: no news known", x.knows(0, 0), NONE);
        faulty("", 0, 1);
        faulty("p", 1, 1);
        faulty("p2", 2, 1);
        faulty("q2;", 0, 1);
        faulty("p;", 1, 1);
        faulty("p1;", 1, 2);
        faulty("p7;", 1, 2);
        faulty("p12;", 1, 2);
        faulty("p002;", 1, 1);
        faulty("p2,", 2, 1);
        faulty("p 2;", 1, 1);
        faulty("P2;", 0, 1);
        faulty("p2;;", 3, 1);
        faulty("p2;p2;", 3, 1);
        faulty("p2;x", 3, 1);
        faulty("p2;w", 4, 1);
        faulty("p2;w2,0,1;", 4, 2);
        faulty("p2;w0,2,1;", 6, 2);
        faulty("p2;w1,1,1;", 6, 2);
        faulty("p2;w1,01,1;", 6, 2);
        faulty("p2;w0,1,0;", 8, 2);
        faulty("p2;w0,1,10;", 8, 2);
        faulty("p2;w0,1,100;", 8, 1);
        faulty("p2;w0,1;", 7, 1);
        faulty("p2;w0;1,1;", 5, 1);
        faulty("p2;w0,1,1", 9, 1);
        faulty("p2;w0,1,1,", 9, 1);
        faulty("p2;t", 4, 1);
        faulty("p2;t2;", 4, 2);
        faulty("p2;t0", 5, 1);
        faulty("p2;t0;w0,1,1;", 6, 1);
        faulty("p2;t0;t0;t0;t0;g0;", 15, 3);
        faulty("p2;t0;t0;t0;t0;w", 15, 1);
        faulty("p2;" + "w0,1,1;".repeat(9), 59, 3);
        faulty("p2;" + "w0,1,1;".repeat(8) + "t0;w0,1,1;", 62, 1);
        faulty("p2;" + (char) 0, 3, 1);
        faulty("p2;" + (char) 228, 3, 1);
        NewsShips again = new NewsShips();
        Check.read(again, "p22;");
        due("7: bytes of the text before are gone", Check.read(again, "p2"), -1000102);
        due("8: so it ends too early", again.fault(), 1);
    }

    private static void promise8() {
        NewsShips x = new NewsShips();
        due("8: before one", x.fault(), 0);
        Check.read(x, "p7;");
        due("8: fault", x.fault(), 2);
        Check.read(x, "p2;");
        due("8: the latest one", x.fault(), 2);
        Check.read(x, "x");
        due("8: fault", x.fault(), 1);
    }

    private static void promise9() {
        NewsShips x = Check.with(LINE + "t0;g0;c1;m0;");
        x.sail(3, 0);
        due("9: happen", x.happen(0), 0);
        due("9: the port knows it", x.knows(0, 0), 0);
        due("9: a ship in it knows it", x.ship(0, 3), 1);
        due("9: a ghost knows none", x.ship(1, 3), 0);
        due("9: a ship elsewhere", x.ship(2, 3), 0);
        due("9: a ship at sea", x.ship(3, 3), 0);
        due("9: port 4", x.happen(4), BAD);
        due("9: port -1", x.happen(-1), BAD);
        x.days(1);
        due("9: happen", x.happen(3), 1);
        due("9: happen", x.happen(3), 2);
        due("9: happen", x.happen(0), 3);
        due("9: from that day on", x.knows(0, 3), 1);
        due("9: the ship knows both", x.ship(0, 3), 9);
        due("9: full", x.happen(0), FULL);
        due("9: BAD ahead of FULL", x.happen(4), BAD);
        due("9: an act each", x.count(7), 6);
    }

    private static void promise10() {
        NewsShips x = Check.with("p3;w0,1,5;w1,2,4;t0;c1;b1;g0;");
        due("10: trader", x.sail(0, 0), 5);
        due("10: at sea", x.sail(0, 0), STATE);
        due("10: cutter, the other direction", x.sail(1, 0), 3);
        due("10: it goes there", x.ship(1, 0), 0);
        due("10: barge", x.sail(2, 1), 8);
        due("10: ghost", x.sail(3, 1), STATE);
        due("10: ghost", x.sail(3, 0), 4);
        due("10: no such ship", x.sail(4, 0), BAD);
        due("10: no such ship", x.sail(-1, 0), BAD);
        due("10: no such way", x.sail(0, 2), BAD);
        due("10: no such way", x.sail(0, -1), BAD);
        due("10: ships at sea", x.count(6), 4);
        due("10: acts", x.count(7), 4);
        x.days(3);
        due("10: from where it came", x.sail(1, 1), STATE);
        due("10: and back", x.sail(1, 0), 6);
        NewsShips late = Check.with("p2;w0,1,9;b0;");
        for (int i = 0; i < 5; i++) {
            late.days(i == 4 ? 19 : 20);
        }
        due("10: beyond day 99", late.sail(0, 0), 117);
    }

    private static void promise11() {
        NewsShips x = Check.with(LINE + "t0;c0;");
        x.happen(0);
        x.sail(0, 0);
        x.sail(1, 0);
        due("11: n 0", x.days(0), BAD);
        due("11: n 21", x.days(21), BAD);
        due("11: the cutter tells port 1", x.days(1), 1);
        due("11: its pence", x.ship(1, 2), 9);
        due("11: the trader is late", x.days(1), 0);
        due("11: its pence", x.ship(0, 2), 0);
        due("11: by signals from 1 that knew on day 1", x.days(8), 1);
        due("11: from then on", x.knows(2, 0), 10);
        due("11: and from 2 to 3", x.days(20), 1);
        due("11: from then on", x.knows(3, 0), 13);
        due("11: an act each, the oldest forgotten", x.count(7), 24);
        due("11: days", x.days(20) + x.days(20) + x.days(20), 0);
        due("11: day 90", x.count(4), 90);
        due("11: beyond", x.days(10), FULL);
        due("11: BAD ahead of FULL", x.days(21), BAD);
        due("11: to the last", x.days(9), 0);
        due("11: beyond", x.days(1), FULL);

        NewsShips y = Check.with("p3;w0,1,1;w1,2,1;m0;t2;g2;b0;");
        y.happen(0);
        y.happen(2);
        y.sail(0, 0);
        y.sail(1, 1);
        y.sail(2, 1);
        due("11: two bring two", y.days(1), 2);
        due("11: the courier's", y.ship(0, 2), 9);
        due("11: the trader's", y.ship(1, 2), 9);
        due("11: then each knows both", y.ship(0, 3) * 10 + y.ship(1, 3), 33);
        due("11: a ghost none", y.ship(2, 3), 0);
        y.sail(0, 0);
        y.sail(1, 0);
        due("11: of two the first by number", y.days(1), 1);
        due("11: has the pence", y.ship(0, 2), 17);
        due("11: the other none", y.ship(1, 2), 9);
        due("11: by a signal on day 4", y.days(2), 1);
        due("11: of news 0 to port 2", y.knows(2, 0), 4);

        NewsShips first = Check.with("p6;w4,5,1;w0,1,1;m4;m4;m4;m4;");
        for (int i = 0; i < 4; i++) {
            first.happen(4);
        }
        first.sail(3, 0);
        due("11: four news to port 5", first.days(1), 4);
        due("11: four pence", first.ship(3, 2), 36);
        due("11: nobody else", first.port(5, 0) * 100 + first.port(0, 0), 1500);
        first.undo();
        first.undo();
        due("11: by signals of way 0", first.days(2), 0);
        due("11: by signals of way 0", first.days(1), 4);
        NewsShips z = Check.with("p2;w0,1,9;w0,1,4;b0;t0;");
        z.happen(0);
        z.sail(0, 0);
        z.days(8);
        z.sail(1, 1);
        z.days(4);
        due("11: by signal and ship on one day, the signal's", z.ship(1, 2), 0);
        due("11: the nearer way", z.knows(1, 0), 12);
        NewsShips old = Check.with("p2;w0,1,9;w0,1,5;t0;");
        old.happen(0);
        old.days(6);
        old.sail(0, 1);
        due("11: 11 days old", old.days(5), 1);
        due("11: 0 at least", old.ship(0, 2), 0);
    }

    private static void promise12() {
        NewsShips x = Check.with(LINE + "t0;c0;");
        x.happen(0);
        x.sail(1, 0);
        x.days(1);
        due("12: pence", x.ship(1, 2), 9);
        due("12: a day undone", x.undo(), 2);
        due("12: no pence", x.ship(1, 2), 0);
        due("12: at sea", x.ship(1, 1), 1);
        due("12: day 0", x.count(4), 0);
        due("12: not known", x.knows(1, 0), NONE);
        due("12: sailing undone", x.undo(), 1);
        due("12: in its port", x.port(0, 1), 3);
        due("12: news undone", x.undo(), 0);
        due("12: none", x.count(5), 0);
        due("12: the ship knows none", x.ship(0, 3), 0);
        due("12: none left", x.undo(), STATE);
        x.sail(0, 0);
        x.happen(3);
        for (int i = 0; i < 23; i++) {
            x.days(1);
        }
        due("12: 24 at most", x.count(7), 24);
        for (int i = 23; i >= 0; i--) {
            due("12: undo", x.undo(), i);
        }
        due("12: the oldest is forgotten", x.undo(), STATE);
        due("12: so it is at sea", x.count(6), 1);
        due("12: day 0", x.count(4), 0);
        due("12: no news", x.count(5), 0);
        x.days(20);
        x.days(20);
        due("12: a refusal is no act", x.days(0), BAD);
        due("12: undo", x.undo(), 23);
        due("12: day 39", x.count(4), 39);
    }

    private static void promise13() {
        NewsShips x = Check.with(LINE + "t0;g3;");
        x.happen(0);
        x.days(3);
        x.happen(0);
        x.sail(0, 0);
        x.days(1);
        due("13: to which it goes", x.ship(0, 0), 1);
        due("13: in how many days", x.ship(0, 1), 1);
        x.days(1);
        due("13: it is there", x.ship(0, 1), 0);
        due("13: 10 less 5, and 10 less 2", x.ship(0, 2), 13);
        due("13: both", x.ship(0, 3), 3);
        x.days(4);
        due("13: it is there", x.ship(0, 1), 0);
        due("13: of the other", x.ship(1, 0), 3);
        due("13: ship 2", x.ship(2, 0), BAD);
        due("13: ship -1", x.ship(-1, 0), BAD);
        due("13: what 4", x.ship(0, 4), BAD);
        due("13: what -1", x.ship(0, -1), BAD);
    }

    private static void promise14to16() {
        NewsShips x = Check.with(LINE + "t0;g3;b0;");
        due("15: no news yet", x.news(0, 0), BAD);
        x.days(2);
        x.happen(3);
        x.happen(0);
        x.sail(0, 0);
        due("14: news in 0", x.port(0, 0), 2);
        due("14: ships in 0", x.port(0, 1), 4);
        due("14: none, one is on its way", x.port(1, 1), 0);
        due("14: ships in 3", x.port(3, 1), 2);
        due("14: port 4", x.port(4, 0), BAD);
        due("14: port -1", x.port(-1, 0), BAD);
        due("14: what 2", x.port(0, 2), BAD);
        due("14: what -1", x.port(0, -1), BAD);
        due("15: day", x.news(0, 0), 2);
        due("15: port", x.news(0, 1), 3);
        due("15: port", x.news(1, 1), 0);
        due("15: news 2", x.news(2, 0), BAD);
        due("15: news -1", x.news(-1, 0), BAD);
        due("15: what 2", x.news(0, 2), BAD);
        due("15: what -1", x.news(0, -1), BAD);
        due("16: knows", x.knows(3, 0), 2);
        due("16: not yet", x.knows(2, 0), NONE);
        x.days(3);
        due("16: by a signal", x.knows(2, 0), 5);
        due("16: by a ship", x.knows(1, 1), 4);
        due("16: port 4", x.knows(4, 0), BAD);
        due("16: news 2", x.knows(0, 2), BAD);
        due("16: port -1", x.knows(-1, 0), BAD);
        due("16: news -1", x.knows(0, -1), BAD);
    }

    private static void promise17() {
        int[][] takes = {
            {1, 2, 3, 8, 9}, {1, 1, 2, 4, 5}, {2, 4, 6, 16, 18}, {1, 1, 2, 7, 8},
        };
        for (int kinds = 0; kinds < 2; kinds++) {
            String last = kinds == 0 ? "m0;" : "g0;";
            NewsShips x = Check.with("p2;w0,1,1;w0,1,2;w0,1,3;w0,1,8;w0,1,9;t0;c0;b0;" + last);
            for (int s = 0; s < 4; s++) {
                for (int w = 0; w < 5; w++) {
                    due("17: ship " + s + " way " + w, x.takes(s, w), takes[s][w]);
                }
            }
            due("17: ship 4", x.takes(4, 0), BAD);
            due("17: ship -1", x.takes(-1, 0), BAD);
            due("17: way 5", x.takes(0, 5), BAD);
            due("17: way -1", x.takes(0, -1), BAD);
        }
    }

    private static void promise18() {
        NewsShips x = Check.with(LINE + "c0;t0;g0;");
        due("18: no news", x.ahead(0, 0), BAD);
        x.happen(0);
        due("18: gone already", x.ahead(0, 0), 0);
        due("18: by signals", x.ahead(1, 0), 6);
        due("18: by signals", x.ahead(3, 0), 18);
        x.sail(0, 0);
        x.sail(2, 0);
        due("18: by a ship that comes in", x.ahead(1, 0), 1);
        due("18: and signals from there", x.ahead(2, 0), 10);
        due("18: nothing changes", x.count(4), 0);
        due("18: port 4", x.ahead(4, 0), BAD);
        due("18: port -1", x.ahead(-1, 0), BAD);
        due("18: news 1", x.ahead(0, 1), BAD);
        due("18: news -1", x.ahead(0, -1), BAD);

        NewsShips far = Check.with("p6;w0,1,9;w1,2,8;w0,3,9;w3,4,9;w4,5,1;w5,2,9;");
        far.days(20);
        far.days(20);
        far.days(20);
        far.days(20);
        far.days(16);
        far.happen(0);
        due("18: 96 and 51", far.ahead(2, 0), 147);
        due("18: 96 and 54", far.ahead(4, 0), 150);
        due("18: till day 150, not behind", far.ahead(5, 0), NONE);
        due("22: so some never", far.sure(0, 0), NONE);
        due("22: so some never", far.sure(0, 1), NONE);
        far.happen(5);
        due("18: 96 and 27 and 24", far.ahead(1, 1), 147);
        due("18: 96 and 57", far.ahead(0, 1), NONE);
        NewsShips back = Check.with("p6;w4,5,1;w3,4,1;w2,3,1;w1,2,1;w0,1,1;t0;");
        back.happen(0);
        due("18: ways told from the end", back.ahead(5, 0), 15);
        due("21: ways told from the end", back.overtaken(0, 5, 0), 10);
        NewsShips apart = Check.with("p3;w0,1,2;t2;");
        apart.happen(2);
        due("18: never", apart.ahead(0, 0), NONE);
        due("22: never", apart.sure(0, 0), NONE);
    }

    private static void promise19() {
        NewsShips x = Check.with(LINE + "t2;c0;g0;m1;");
        x.happen(0);
        due("19: the cutter knows it", x.carried(1, 1, 0), 1);
        due("19: and goes on", x.carried(1, 3, 0), 4);
        due("19: the trader waits in 1 till day 6, and has 4 days back", x.carried(0, 3, 0), 10);
        due("19: to where it was", x.carried(0, 2, 0), 9);
        due("19: the port knows it ahead of all", x.carried(0, 1, 0), 6);
        due("19: a ghost brings none", x.carried(2, 3, 0), 18);
        due("19: the courier fetches it", x.carried(3, 2, 0), 4);
        due("19: gone already", x.carried(0, 0, 0), 0);
        x.sail(1, 0);
        due("19: at sea: when it is there", x.carried(1, 2, 0), 3);
        due("19: the trader has it from 1", x.carried(0, 2, 0), 6);
        due("19: without the one that is asked", x.carried(1, 1, 0), 1);
        due("19: ship 4", x.carried(4, 0, 0), BAD);
        due("19: ship -1", x.carried(-1, 0, 0), BAD);
        due("19: port 4", x.carried(0, 4, 0), BAD);
        due("19: port -1", x.carried(0, -1, 0), BAD);
        due("19: news 1", x.carried(0, 0, 1), BAD);
        due("19: news -1", x.carried(0, 0, -1), BAD);
        NewsShips apart = Check.with("p4;w0,1,2;w2,3,1;t2;t0;");
        apart.happen(0);
        due("19: never", apart.carried(0, 2, 0), NONE);
        due("19: never", apart.carried(1, 2, 0), NONE);
        NewsShips fetch = Check.with("p3;w0,1,2;w1,2,9;c1;");
        fetch.happen(0);
        due("19: fetched from 0 by day 1, in 2 by day 7", fetch.carried(0, 2, 0), 7);
        lateCarried();
    }

    private static void lateCarried() {
        NewsShips x = Check.with("p6;w0,1,9;w1,2,9;w2,3,9;w3,4,9;w4,5,9;b0;");
        for (int i = 0; i < 4; i++) {
            x.days(20);
        }
        x.days(16);
        x.happen(0);
        due("19: 96 and 54", x.carried(0, 3, 0), 150);
        due("19: not till day 150", x.carried(0, 4, 0), NONE);
    }

    private static void promise20() {
        fameAmongThoseWhoKnow();
        NewsShips x = Check.with(LINE + "c0;g0;t3;");
        x.happen(0);
        due("20: all but its own", x.fame(0, 0, 30, 0), 3);
        due("20: 1 and 2 and 1 days", x.fame(0, 0, 30, 1), 4);
        due("20: behind 4", x.fame(0, 0, 4, 0), 3);
        due("20: behind 3", x.fame(0, 0, 3, 0), 2);
        due("20: behind 3", x.fame(0, 0, 3, 1), 3);
        due("20: behind 1", x.fame(0, 0, 1, 0), 1);
        due("20: behind 0", x.fame(0, 0, 0, 0), 0);
        due("20: behind 0", x.fame(0, 0, 0, 1), 0);
        due("20: a ghost", x.fame(1, 0, 30, 0), 0);
        due("20: a ghost", x.fame(1, 0, 30, 1), 0);
        due("20: fetched on 6 in 0, or in 1: then 2 on 9, 3 on 10", x.fame(2, 0, 30, 0), 2);
        due("20: of both", x.fame(2, 0, 30, 1), 10);
        due("20: behind 9", x.fame(2, 0, 9, 0), 1);
        due("20: no more than it can", x.fame(2, 0, 8, 1), 0);
        x.sail(0, 0);
        due("20: at sea, it comes to 1", x.fame(0, 0, 1, 0), 1);
        due("20: the other fetches it in 1 on 4, is in 2 on 7, in 3 on 8", x.fame(2, 0, 8, 0), 2);
        due("20: behind 7", x.fame(2, 0, 7, 0), 1);
        due("20: behind 6", x.fame(2, 0, 6, 0), 0);
        due("20: d 31", x.fame(0, 0, 31, 0), BAD);
        due("20: d -1", x.fame(0, 0, -1, 0), BAD);
        due("20: what 2", x.fame(0, 0, 0, 2), BAD);
        due("20: what -1", x.fame(0, 0, 0, -1), BAD);
        due("20: ship 3", x.fame(3, 0, 0, 0), BAD);
        due("20: ship -1", x.fame(-1, 0, 0, 0), BAD);
        due("20: news 1", x.fame(0, 1, 0, 0), BAD);
        due("20: news -1", x.fame(0, -1, 0, 0), BAD);
        NewsShips star = Check.with("p4;w0,1,1;w0,2,4;w0,3,9;b0;c0;t0;");
        star.happen(0);
        due("20: a barge: 1 on 2, 3 on 22; in 2 on 12 it is not ahead", star.fame(0, 0, 30, 0), 2);
        due("20: a barge", star.fame(0, 0, 30, 1), 22);
        due("20: a cutter: 1 on 1, 2 on 4, 3 on 11", star.fame(1, 0, 30, 0), 3);
        due("20: a cutter", star.fame(1, 0, 30, 1), 11);
        due("20: behind 10, 1 and 2 on 4", star.fame(1, 0, 10, 1), 4);
        due("20: a trader: 1 on 1, 2 on 6, 3 on 19", star.fame(2, 0, 30, 1), 19);
        NewsShips apart = Check.with("p4;w0,1,2;w2,3,1;t2;t0;");
        apart.happen(0);
        apart.sail(1, 0);
        apart.days(1);
        due("20: never fetched", apart.fame(0, 0, 30, 0), 0);
        due("20: in how many days from now", apart.fame(1, 0, 30, 1), 1);
        NewsShips never = Check.with("p6;w0,1,9;w1,2,9;w2,3,9;w3,4,9;w4,5,1;c0;");
        for (int i = 0; i < 4; i++) {
            never.days(20);
        }
        never.happen(0);
        due("19: fetched, where there are six ports", fetchedIn6(), 4);
        due("20: ahead of what never comes", never.ahead(3, 0) == NONE ? never.fame(0, 0, 30, 0) : BAD, 5);
    }

    private static int fetchedIn6() {
        NewsShips x = Check.with("p6;w4,5,1;w3,4,1;w2,3,1;w1,2,1;w0,1,1;w0,5,9;w0,2,9;w0,3,9;t3;");
        x.happen(5);
        return x.carried(0, 3, 0);
    }

    private static void fameAmongThoseWhoKnow() {
        NewsShips x = Check.with("p6;w4,5,9;w3,4,1;w2,3,1;w1,2,1;w0,1,1;t0;");
        x.happen(0);
        x.days(12);
        due("20: by four that know it, then 9 days", x.fame(0, 0, 13, 0), 1);
        due("20: by four that know it, then 9 days", x.fame(0, 0, 30, 1), 13);
        NewsShips y = Check.with("p3;w0,1,2;w1,2,3;w0,2,9;t1;");
        y.happen(1);
        due("20: 0 on day 2; 2 on 3 and 0 on 8 is too late", y.fame(0, 0, 30, 0), 2);
        due("20: 0 on day 2, 2 on day 7", y.fame(0, 0, 30, 1), 7);
        NewsShips z = Check.with("p3;w1,0,4;w1,2,2;t1;");
        z.happen(1);
        due("20: 2 on day 2, 0 on day 8", z.fame(0, 0, 30, 1), 8);
    }

    private static void promise21() {
        NewsShips x = Check.with(LINE + "c2;g0;b3;");
        x.happen(0);
        due("21: it need not know it", x.overtaken(0, 1, 0), 4);
        due("21: it is there", x.overtaken(0, 2, 0), 15);
        due("21: a ghost, too", x.overtaken(1, 3, 0), 14);
        due("21: a barge: 8 days", x.overtaken(2, 1, 0), NONE);
        due("21: not ahead", x.overtaken(0, 0, 0), NONE);
        x.sail(0, 1);
        x.days(1);
        due("21: at sea, when it is there", x.overtaken(0, 1, 0), 4);
        due("21: and back", x.overtaken(0, 2, 0), 11);
        due("21: ship 3", x.overtaken(3, 0, 0), BAD);
        due("21: ship -1", x.overtaken(-1, 0, 0), BAD);
        due("21: port 4", x.overtaken(0, 4, 0), BAD);
        due("21: port -1", x.overtaken(0, -1, 0), BAD);
        due("21: news 1", x.overtaken(0, 0, 1), BAD);
        due("21: news -1", x.overtaken(0, 0, -1), BAD);
        NewsShips apart = Check.with("p4;w0,1,2;w2,3,1;t2;t0;");
        apart.happen(0);
        due("21: that never comes", apart.overtaken(0, 3, 0), NONE);
        NewsShips even = Check.with("p3;w0,1,1;w2,1,3;t2;");
        even.happen(0);
        due("21: on the same day", even.overtaken(0, 1, 0), NONE);
        due("21: it never comes there", apart.overtaken(0, 1, 0), NONE);
        due("21: ahead", apart.overtaken(1, 1, 0), 4);
    }

    private static void promise22() {
        NewsShips x = Check.with(LINE + "c0;");
        x.happen(0);
        due("22: all know", x.sure(0, 0), 18);
        due("22: 18 and 18", x.sure(0, 1), 36);
        due("22: and 18", x.sure(0, 2), 54);
        due("22: and 18", x.sure(0, 3), 72);
        x.sail(0, 0);
        due("22: by ship and signals", x.sure(0, 0), 13);
        due("22: from 3 back to 0", x.sure(0, 1), 31);
        due("22: k 4", x.sure(0, 4), BAD);
        due("22: k -1", x.sure(0, -1), BAD);
        due("22: news 1", x.sure(1, 0), BAD);
        due("22: news -1", x.sure(-1, 0), BAD);
        NewsShips apart = Check.with("p3;w0,1,1;w1,2,1;");
        apart.happen(1);
        due("22: 3 and 6", apart.sure(0, 1), 9);
        due("22: and 6", apart.sure(0, 2), 15);
    }

    private static void promise23() {
        NewsShips x = Check.with(LINE);
        Check.fill(x, 0, 1, 6, 2, 15, 0, 0, 3, 18, 1, 6, 2, 15, 1, 7);
        due("23: no log", x.began(0, 0, 0), 15);
        due("23: one log", x.began(0, 0, 1), 1 << 0 | 1 << 1);
        due("23: two logs", x.began(0, 0, 2), 1 << 0 | 1 << 1);
        due("23: three", x.began(0, 0, 3), 1 << 0);
        due("23: four", x.began(0, 0, 4), 1 << 0);
        due("23: six", x.began(0, 0, 6), 1 << 0);
        due("23: from 2 on", x.began(0, 2, 2), 1 << 0);
        due("23: two days of one port", x.began(0, 8, 3), 0);
        due("23: day 0 or later", x.began(0, 4, 1), 1 << 0);
        due("23: n 7", x.began(0, 0, 7), BAD);
        due("23: n -1", x.began(0, 0, -1), BAD);
        due("23: row 8", x.began(8, 0, 0), BAD);
        due("23: row -1", x.began(-1, 0, 0), BAD);
        due("23: missing", x.began(1, 0, 0), NULL);
        due("23: BAD ahead of NULL", x.began(1, 0, 7), BAD);
        due("23: i -1", x.began(0, -1, 1), PLACE);
        due("23: beyond the end", x.began(0, 3, 6), PLACE);
        due("23: the end", x.began(0, 14, 0), 15);
        due("23: beyond the end", x.began(0, 15, 0), PLACE);
        due("23: far off", x.began(0, MOST, 6), PLACE);
        Check.fill(x, 1, 4, 0, 0, 100, 0, 99, -1, 0, 0, -1);
        due("23: no port", x.began(1, 0, 1), BAD);
        due("23: no day", x.began(1, 2, 1), BAD);
        due("23: a day", x.began(1, 4, 1), 15);
        due("23: no port", x.began(1, 6, 1), BAD);
        due("23: no day", x.began(1, 8, 1), BAD);
        due("23: not looked at", x.began(1, 0, 0), 15);
        NewsShips apart = Check.with("p4;w0,1,2;w2,3,1;");
        Check.fill(apart, 0, 0, 50, 2, 50);
        due("23: nowhere", apart.began(0, 0, 2), 0);
        due("23: where it comes from", apart.began(0, 2, 1), 12);
    }

    private static void odds(NewsShips x, int port, int day, int c, int above, int below) {
        String call = "24: odds port " + port + " day " + day + " c " + c;
        due(call, x.odds(port, 0, day, c, 0), above);
        due(call, x.odds(port, 0, day, c, 1), below);
    }

    private static void promise24() {
        NewsShips x = Check.with("p3;w0,1,4;w1,2,2;w0,2,6;t0;c0;b0;");
        x.happen(0);
        odds(x, 0, 0, 10, 1, 1);
        odds(x, 1, 11, 0, 0, 1);
        odds(x, 1, 12, 10, 1, 1);
        x.sail(0, 0);
        x.sail(1, 0);
        x.sail(2, 2);
        odds(x, 1, 1, 5, 0, 1);
        odds(x, 1, 2, 5, 1, 2);
        odds(x, 1, 4, 5, 3, 4);
        odds(x, 1, 4, 3, 91, 100);
        odds(x, 1, 4, 2, 24, 25);
        odds(x, 1, 4, 10, 0, 1);
        odds(x, 1, 4, 0, 1, 1);
        odds(x, 2, 8, 4, 3, 5);
        odds(x, 2, 10, 4, 21, 25);
        odds(x, 2, 12, 4, 117, 125);
        odds(x, 2, 18, 10, 1, 1);
        odds(x, 2, 150, 1, 1, 1);
        x.days(2);
        odds(x, 2, 7, 4, 0, 1);
        odds(x, 2, 8, 4, 1, 1);
        odds(x, 1, 4, 5, 1, 1);
        due("24: a day gone by", x.odds(1, 0, 1, 5, 0), BAD);
        due("24: this day", x.odds(1, 0, 2, 5, 0), 1);
        due("24: day 151", x.odds(1, 0, 151, 5, 0), BAD);
        due("24: c 11", x.odds(1, 0, 5, 11, 0), BAD);
        due("24: c -1", x.odds(1, 0, 5, -1, 0), BAD);
        due("24: what 2", x.odds(1, 0, 5, 5, 2), BAD);
        due("24: what -1", x.odds(1, 0, 5, 5, -1), BAD);
        due("24: port 3", x.odds(3, 0, 5, 5, 0), BAD);
        due("24: port -1", x.odds(-1, 0, 5, 5, 0), BAD);
        due("24: news 1", x.odds(1, 1, 5, 5, 0), BAD);
        due("24: news -1", x.odds(1, -1, 5, 5, 0), BAD);
        due("24: nothing changes", x.count(6), 2);
    }

    private static void follow(NewsShips x, int ship, int n, int day, int port, int news) {
        String call = "25: ship " + ship + " by " + n + " orders, ";
        due(call + "day", x.followed(ship, 0, 0, n, 0), day);
        due(call + "port", x.followed(ship, 0, 0, n, 1), port);
        due(call + "news", x.followed(ship, 0, 0, n, 2), news);
    }

    private static void promise25() {
        NewsShips x = Check.with(LINE + "t0;g0;c1;b2;");
        x.happen(0);
        Check.fill(x, 0, 0, 10, 0, 1, 11, 2, 20, 20, 2, 5);
        follow(x, 0, 0, 0, 0, 1);
        follow(x, 0, 1, 2, 1, 1);
        follow(x, 0, 2, 2, 1, 1);
        follow(x, 0, 3, 2, 1, 1);
        follow(x, 0, 4, 5, 2, 1);
        follow(x, 0, 6, 6, 3, 1);
        follow(x, 0, 8, 8, 3, 1);
        follow(x, 0, 9, 9, 2, 1);
        follow(x, 0, 10, 9, 2, 1);
        follow(x, 1, 2, 1, 1, 0);
        follow(x, 1, 3, 2, 0, 0);
        follow(x, 1, 4, 2, 0, 0);
        follow(x, 2, 1, 1, 0, 1);
        follow(x, 3, 1, 0, 2, 0);
        due("25: nothing changes", x.count(4) + x.count(6) + x.port(1, 0), 0);
        x.sail(0, 0);
        follow(x, 0, 0, 2, 1, 1);
        follow(x, 0, 1, 4, 0, 1);
        due("25: ship 4", x.followed(4, 0, 0, 0, 0), BAD);
        due("25: ship -1", x.followed(-1, 0, 0, 0, 0), BAD);
        due("25: row 8", x.followed(0, 8, 0, 0, 0), BAD);
        due("25: row -1", x.followed(0, -1, 0, 0, 0), BAD);
        due("25: n 13", x.followed(0, 0, 0, 13, 0), BAD);
        due("25: n -1", x.followed(0, 0, 0, -1, 0), BAD);
        due("25: what 3", x.followed(0, 0, 0, 0, 3), BAD);
        due("25: what -1", x.followed(0, 0, 0, 0, -1), BAD);
        due("25: missing", x.followed(0, 5, 0, 0, 0), NULL);
        due("25: place", x.followed(0, 0, 1, 10, 0), PLACE);
        due("25: place", x.followed(0, 0, -1, 1, 0), PLACE);
        due("25: the end", x.followed(0, 0, 10, 0, 0), 2);
        due("25: beyond it", x.followed(0, 0, 11, 0, 0), PLACE);
        int[] none = {-1, 8, 9, 14, 19, 21, MOST};
        for (int item : none) {
            Check.fill(x, 1, 20, 0, item);
            due("25: no order, though never come to: " + item, x.followed(0, 1, 0, 3, 0), BAD);
            due("25: not among them: " + item, x.followed(0, 1, 0, 1, 0), 3);
        }
        Check.fill(x, 1, 20, 7, 20);
        due("25: there is no way 7, so all ends", x.followed(0, 1, 0, 3, 0), 3);
        Check.fill(x, 1, 20, 2, 20);
        due("25: way 2 has no end there, so all ends", x.followed(0, 1, 0, 3, 0), 3);
        Check.fill(x, 1, 20, 9);
        due("25: behind the last one", x.followed(0, 1, 0, 1, 0), 3);
        Check.fill(x, 1, 10, 11, 20, 12, 20, 13, 20);
        due("25: an if left out, and three days", x.followed(0, 1, 0, 7, 0), 5);
        lateOrders();
    }

    private static void lateOrders() {
        NewsShips x = Check.with("p2;w0,1,9;b0;t0;");
        for (int i = 0; i < 5; i++) {
            x.days(i == 4 ? 19 : 20);
        }
        Check.fill(x, 0, 0, 0, 0, 0);
        follow(x, 0, 2, 135, 0, 0);
        follow(x, 0, 3, 150, 1, 0);
        follow(x, 0, 4, 150, 1, 0);
        Check.fill(x, 0, 0, 0, 0, 0, 0, 20, 20, 20, 20, 20, 20, 0);
        follow(x, 1, 11, 150, 1, 0);
        follow(x, 1, 12, 150, 1, 0);
    }

    private static void promise26and27() {
        NewsShips x = Check.with(LINE + "t0;c0;");
        x.happen(0);
        x.sail(1, 0);
        due("26: image", x.image(0), 1);
        due("26: no act", x.count(7), 2);
        due("27: none kept", x.restore(1), STATE);
        x.days(4);
        x.happen(3);
        due("26: image", x.image(1), 1);
        due("27: restore", x.restore(0), 1);
        due("27: no act can be undone", x.undo(), STATE);
        due("27: day 0", x.count(4), 0);
        due("27: at sea", x.ship(1, 1), 1);
        due("27: one news", x.count(5), 1);
        x.days(2);
        due("27: again", x.restore(0), 1);
        due("27: day 0", x.count(4), 0);
        Check.read(x, "p2;w0,1,9;g1;");
        due("27: an image stays when a league is read", x.restore(1), 1);
        due("27: its ports", x.count(1), 4);
        due("27: its ways", x.count(2), 3);
        due("27: its ships", x.kind(1), 2);
        due("27: its day", x.count(4), 4);
        due("27: its news", x.knows(1, 0), 1);
        due("27: its pence", x.ship(1, 2), 9);
        x.days(1);
        due("26: in place of the one before", x.image(0), 1);
        x.days(1);
        x.restore(0);
        due("26: in place of the one before", x.count(4), 5);
        due("26: k 2", x.image(2), BAD);
        due("26: k -1", x.image(-1), BAD);
        due("27: k 2", x.restore(2), BAD);
        due("27: k -1", x.restore(-1), BAD);
        due("26: BAD ahead of STATE", new NewsShips().image(2), BAD);
    }

    private static void promise28and29() {
        NewsShips x = Check.with("p2;t0;c0;b0;m0;");
        NewsShips y = Check.with("p2;g1;");
        int[] are = {1 << 0 | 1 << 1, 1 << 0 | 1 << 1 | 1 << 2, 1 << 0 | 1 << 1 | 1 << 3, 1 << 0 | 1 << 4};
        for (int s = 0; s < 4; s++) {
            due("28: kind", x.kind(s), s + 1);
            for (int k = 0; k < 6; k++) {
                due("29: ship " + s + " as " + k, x.as(s, k), (are[s] >> k & 1) == 1 ? s : KIND);
            }
        }
        due("28: ghost", y.kind(0), 5);
        for (int k = 0; k < 6; k++) {
            due("29: ghost as " + k, y.as(0, k), k == 0 || k > 3 ? 0 : KIND);
        }
        due("28: ship 4", x.kind(4), BAD);
        due("28: ship -1", x.kind(-1), BAD);
        due("29: ship 4", x.as(4, 0), BAD);
        due("29: ship -1", x.as(-1, 0), BAD);
        due("29: kind 6", x.as(0, 6), BAD);
        due("29: kind -1", x.as(0, -1), BAD);
    }

    private static void asked(NewsShips x, int ship, int what, int answer, int... bodies) {
        String call = "30: ship " + ship + " asked " + what;
        due(call, x.ask(ship, what), answer);
        for (int i = 0; i < bodies.length; i++) {
            due("31: trace " + i + " of " + call, x.trace(i), bodies[i]);
        }
        due("31: end of " + call, x.trace(bodies.length), NONE);
    }

    private static void promise30and31() {
        NewsShips x = Check.with("p2;w0,1,1;t0;c0;b0;m0;");
        x.happen(0);
        x.happen(0);
        x.days(1);
        asked(x, 0, 0, 0 + 2, 11, 10, 21, 20);
        asked(x, 0, 1, 2, 21, 20);
        asked(x, 1, 0, -(0 + 2 * (1 + 2)), 12, 11, 10, 24, 21, 20);
        asked(x, 1, 1, 6, 24, 21, 20);
        asked(x, 2, 0, 0 + 2 + 2 - 1000, 11, 10, 22, 21, 20);
        asked(x, 2, 1, 2 + 2 - 1000, 22, 21, 20);
        asked(x, 3, 0, -100, 13, 10);
        asked(x, 3, 1, 3 + 100, 23, 20, 13, 10);
        x.sail(3, 0);
        x.days(1);
        asked(x, 3, 0, 16 - 100, 13, 10);
        asked(x, 3, 1, 3 - 16 + 100, 23, 20, 13, 10);
        due("30: ship 4", x.ask(4, 0), BAD);
        due("30: ship -1", x.ask(-1, 0), BAD);
        due("30: what 2", x.ask(0, 2), BAD);
        due("30: what -1", x.ask(0, -1), BAD);
        due("31: what is refused leaves it", x.trace(0), 23);
        due("31: -1", x.trace(-1), NONE);
        due("31: 16", x.trace(16), NONE);
        due("31: far off", x.trace(MOST), NONE);
        due("31: far off", x.trace(LEAST), NONE);
        NewsShips y = Check.with("p2;w0,1,1;t1;g0;");
        y.happen(0);
        asked(y, 1, 0, -200, 14, 13, 10);
        asked(y, 1, 1, 1 + 200, 23, 20, 14, 13, 10);
    }

    private static void promise32() {
        NewsShips x = Check.with(LINE + "t0;c1;b2;");
        x.row(4, 0, 3);
        x.row(5, 0, 0);
        x.happen(1);
        x.sail(0, 0);
        x.sail(1, 0);
        x.days(1);
        x.feed(0);
        int[] all = {2, 4, 3, 3, 1, 1, 1, 4, 1};
        for (int what = 0; what < all.length; what++) {
            due("32: count " + what, x.count(what), all[what]);
        }
        due("32: 9", x.count(9), BAD);
        due("32: -1", x.count(-1), BAD);
    }

    private static void promise33() {
        NewsShips x = new NewsShips();
        x.row(0, 0, -1);
        due("33: SIZE", x.status(), 4);
        x.row(9, 0, 1);
        due("33: BAD leaves it", x.status(), 4);
        x.began(0, 0, 0);
        due("33: STATE leaves it", x.status(), 4);
        x.drop(0);
        due("33: NULL", x.status(), 1);
        Check.read(x, LINE + "t0;");
        x.count(0);
        x.sail(0, 1);
        due("33: others leave it", x.status(), 1);
        x.row(0, 0, 4);
        due("33: none", x.status(), 0);
        x.set(0, 4, 0);
        due("33: PLACE", x.status(), 2);
        x.set(0, 0, 0);
        due("33: none", x.status(), 0);
        x.row(1, 1, 4);
        x.copy(0, 0, 1, 0, 1);
        due("33: STORE", x.status(), 5);
        x.copy(0, 0, 0, 0, 1);
        due("33: none", x.status(), 0);
        x.as(0, 2);
        due("33: KIND", x.status(), 3);
        x.as(0, 6);
        due("33: BAD leaves it", x.status(), 3);
        x.as(0, 1);
        due("33: none", x.status(), 0);
        x.began(2, 0, 0);
        due("33: NULL", x.status(), 1);
        x.set(0, 0, 9);
        x.as(0, 2);
        x.began(0, 0, 1);
        due("33: BAD at last leaves it", x.status(), 3);
        x.followed(0, 0, 0, 1, 0);
        due("33: BAD at last leaves it", x.status(), 3);
        x.followed(0, 0, 1, 1, 0);
        due("33: none", x.status(), 0);
        x.followed(0, 0, 4, 1, 0);
        due("33: PLACE", x.status(), 2);
        x.began(0, 1, 0);
        due("33: none", x.status(), 0);
        x.drop(5);
        x.drop(0);
        due("33: none", x.status(), 0);
    }
}
