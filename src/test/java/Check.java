/** What the tests share: answers that are due, leagues put on the tape, and the end of a test. */
final class Check {
    private static int asked;
    private static int wrong;

    private Check() {
    }

    static void due(String call, int got, int want) {
        asked++;
        if (got != want) {
            wrong++;
            System.out.println(call + " answered " + got + ", due is " + want);
        }
    }

    static void holds(String what, boolean holds) {
        asked++;
        if (!holds) {
            wrong++;
            System.out.println("does not hold: " + what);
        }
    }

    static boolean anyWrong() {
        return wrong > 0;
    }

    static int read(NewsShips x, String text) {
        for (int i = 0; i < text.length(); i++) {
            x.feed(text.charAt(i));
        }
        return x.league();
    }

    static NewsShips with(String text) {
        NewsShips x = new NewsShips();
        int ports = read(x, text);
        holds("a league is read: " + text, ports >= 2);
        return x;
    }

    static void fill(NewsShips x, int row, int... items) {
        x.row(row, 2, items.length);
        for (int i = 0; i < items.length; i++) {
            x.set(row, i, items[i]);
        }
    }

    static void end(String test) {
        System.out.println(test + ": " + asked + " checks, " + wrong + " wrong");
        if (wrong > 0) {
            System.exit(1);
        }
    }
}
