import java.util.function.IntUnaryOperator;

/** What the tests share: answers that are due, leagues put on the tape, and the end of a test. */
final class Check {
    static final int LEAST = Integer.MIN_VALUE, MOST = Integer.MAX_VALUE;

    private static int asked;
    private static int wrong;
    private static String about = "";

    private Check() {
    }

    /** What is checked from here on is said in these words; they are printed ahead of a wrong answer. */
    static void about(String words) {
        about = words;
    }

    static void due(String call, int got, int want) {
        asked++;
        if (got != want) {
            tellWrong(call + " answered " + got + ", due is " + want);
        }
    }

    static void holds(String what, boolean holds) {
        asked++;
        if (!holds) {
            tellWrong("does not hold: " + what);
        }
    }

    private static void tellWrong(String what) {
        wrong++;
        System.out.println((about.isEmpty() ? "" : "[" + about + "] ") + what);
    }

    /** A number of a call from the least to the most is well, all others are BAD; the call changes nothing. */
    static void range(String number, int least, int most, IntUnaryOperator call) {
        for (int v : new int[] {least, most}) {
            int got = call.applyAsInt(v);
            holds(number + " = " + v + " is well, not " + got, got != NewsShips.BAD);
        }
        for (int v : new int[] {least - 1, most + 1, LEAST, MOST}) {
            due(number + " = " + v, call.applyAsInt(v), NewsShips.BAD);
        }
    }

    static boolean anyWrong() {
        return wrong > 0;
    }

    static void feed(NewsShips x, String text) {
        for (int i = 0; i < text.length(); i++) {
            x.feed(text.charAt(i));
        }
    }

    static int read(NewsShips x, String text) {
        feed(x, text);
        return x.league();
    }

    static NewsShips with(String text) {
        NewsShips x = new NewsShips();
        int ports = read(x, text);
        holds("a league is read: " + text, ports >= 2);
        return x;
    }

    /** A league on a day of its own. */
    static NewsShips on(int day, String text) {
        NewsShips x = with(text);
        pass(x, day);
        return x;
    }

    static void pass(NewsShips x, int days) {
        for (int left = days; left > 0; left -= 20) {
            x.days(Math.min(left, 20));
        }
    }

    static void fill(NewsShips x, int row, int... items) {
        fillAs(x, row, 2, items);
    }

    static void fillAs(NewsShips x, int row, int lane, int... items) {
        x.row(row, lane, items.length);
        for (int i = 0; i < items.length; i++) {
            x.set(row, i, items[i]);
        }
    }

    static void end(String test) {
        System.out.println(test + ": " + asked + " checks, " + wrong + " wrong");
        if (wrong > 0) {
            System.exit(1);
        }
    }
}
