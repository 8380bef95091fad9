/** The edges that the document names for ROWS, sentence by sentence. */
final class EdgesOfRows {
    private static final int BAD = NewsShips.BAD;
    private static final int NULL = -1000011, PLACE = -1000012, SIZE = -1000014, STORE = -1000015;
    private static final int LEAST = Check.LEAST, MOST = Check.MOST;

    private final Doc doc;

    EdgesOfRows(Doc doc) {
        this.doc = doc;
    }

    void test() {
        rowsThereCanBe();
        layingRows();
        settingItems();
        copyingItems();
        copyingPlaces();
        dropping();
    }

    private static void due(String call, int got, int want) {
        Check.due(call, got, want);
    }

    /** ITEM i, if it is a port and a day is behind it: without ways, news begins where it is known. */
    private static int item(NewsShips x, int row, int i) {
        int bits = x.began(row, i, 1);
        return bits > 0 ? Integer.numberOfTrailingZeros(bits) : bits;
    }

    private static void items(String call, NewsShips x, int row, int... want) {
        for (int i = 0; i < want.length; i++) {
            due(call + ": item " + i, item(x, row, i), want[i]);
        }
    }

    private void rowsThereCanBe() {
        doc.terms("ROWS 0 .. 7 are missing (at first), or have a LANE (0 bytes, 1 shorts, 2 ints)"
            + " and 0 to 40 ITEMS, 0 at first.");
        NewsShips x = Check.with("p6;");
        due("no rows", x.count(0), 0);
        for (int row = 0; row < 8; row++) {
            due("set(" + row + ")", x.set(row, 0, 1), NULL);
            due("drop(" + row + ")", x.drop(row), NULL);
            due("began(" + row + ")", x.began(row, 0, 0), NULL);
        }
        for (int row = 0; row < 8; row++) {
            due("row " + row, x.row(row, row % 3, 40), 40);
            due("rows", x.count(0), row + 1);
            for (int i = 0; i + 12 <= 40; i += 7) {
                due("0 in port 0 six times, from " + i, x.began(row, i, 6), 1);
            }
            due("the last two", x.began(row, 38, 1), 1);
        }
        int[] wide = {112, 4464, 70000};
        for (int row = 0; row < 8; row++) {
            due("row " + row + " has its lane", x.set(row, 39, 70000), wide[row % 3]);
        }
        due("a row of none", x.row(0, 2, 0), 0);
        due("has no item 0", x.set(0, 0, 1), PLACE);
        due("is not missing", x.count(0), 8);
    }

    private void layingRows() {
        doc.promise(2, "A ROW of a LANE with n ITEMS, in place of what is there: n.");
        NewsShips x = Check.with("p6;");
        Check.fillAs(x, 3, 0, 5, 4, 3, 2, 1);
        due("longer, of another lane", x.row(3, 1, 6), 6);
        items("0 again", x, 3, 0, 0, 0, 0, 0);
        due("one row still", x.count(0), 1);
        due("a short now", x.set(3, 5, 40000), 40000 - 65536);
        due("shorter", x.row(3, 2, 1), 1);
        due("its last", x.set(3, 0, MOST), MOST);
        due("behind it", x.set(3, 1, 1), PLACE);

        doc.promise(2, "BAD: ROW, LANE, n above 40; SIZE.");
        NewsShips y = new NewsShips();
        Check.range("row", 0, 7, v -> y.row(v, 0, 1));
        Check.range("lane", 0, 2, v -> y.row(0, v, 1));
        due("n = 0", y.row(1, 1, 0), 0);
        due("n = 1", y.row(1, 1, 1), 1);
        due("n = 39", y.row(1, 1, 39), 39);
        due("n = 40", y.row(1, 1, 40), 40);
        due("n = 41", y.row(1, 1, 41), BAD);
        due("n far above", y.row(1, 1, MOST), BAD);
        due("n = -1", y.row(1, 1, -1), SIZE);
        due("n far below", y.row(1, 1, LEAST), SIZE);
        due("BAD row ahead of SIZE", y.row(8, 1, -1), BAD);
        due("BAD row ahead of SIZE", y.row(-1, 1, -1), BAD);
        due("BAD lane ahead of SIZE", y.row(1, 3, -1), BAD);
        due("BAD lane ahead of SIZE", y.row(1, -1, -1), BAD);
        due("the row is as it was", y.drop(1), 40);
        due("a missing one stays so", y.row(2, 0, -1), SIZE);
        due("a missing one stays so", y.row(2, 0, 41), BAD);
        due("a missing one stays so", y.drop(2), NULL);
    }

    private void settingItems() {
        doc.promise(3, "ITEM i becomes v, its lowest bits, as many as the LANE has: what it is then.");
        NewsShips x = Check.with("p6;");
        for (int lane = 0; lane < 3; lane++) {
            x.row(lane, lane, 3);
        }
        int[][] cut = {
            {0, 127, 127}, {0, 128, -128}, {0, -128, -128}, {0, -129, 127}, {0, 255, -1}, {0, 256, 0}, {0, -1, -1},
            {0, 32768, 0}, {0, MOST, -1}, {0, LEAST, 0}, {0, 0, 0},
            {1, 127, 127}, {1, 128, 128}, {1, -129, -129}, {1, 32767, 32767}, {1, 32768, -32768},
            {1, -32768, -32768}, {1, -32769, 32767}, {1, 65535, -1}, {1, 65536, 0}, {1, MOST, -1}, {1, LEAST, 0},
            {2, 128, 128}, {2, 32768, 32768}, {2, 65536, 65536}, {2, MOST, MOST}, {2, LEAST, LEAST}, {2, -1, -1},
        };
        for (int[] c : cut) {
            due("set " + c[1] + " in lane " + c[0], x.set(c[0], 0, c[1]), c[2]);
        }
        x.set(0, 0, 256 + 3);
        x.set(1, 0, 65536 * 7 + 4);
        x.set(2, 0, 5);
        due("a byte is kept as it is cut", item(x, 0, 0), 3);
        due("a short is kept as it is cut", item(x, 1, 0), 4);
        due("an int is kept", item(x, 2, 0), 5);
        x.set(0, 0, 128);
        due("a byte below 0 is no port", x.began(0, 0, 1), BAD);
        x.set(2, 0, 256 + 3);
        due("an int that is not cut is no port", x.began(2, 0, 1), BAD);
        Check.fill(x, 4, 1, 2, 3, 4, 5, 0);
        x.set(4, 2, 0);
        items("others stay", x, 4, 1, 2, 0, 4, 5);

        doc.promise(3, "BAD: ROW; NULL; PLACE.");
        NewsShips y = new NewsShips();
        for (int row = 0; row < 8; row++) {
            y.row(row, 2, 40);
        }
        Check.range("row", 0, 7, v -> y.set(v, 0, 1));
        due("the first place", y.set(5, 0, 9), 9);
        due("the last place", y.set(5, 39, 9), 9);
        due("behind it", y.set(5, 40, 9), PLACE);
        due("ahead of the first", y.set(5, -1, 9), PLACE);
        due("far behind", y.set(5, MOST, 9), PLACE);
        due("far ahead", y.set(5, LEAST, 9), PLACE);
        y.row(5, 2, 1);
        due("the only place", y.set(5, 0, 9), 9);
        due("behind it, though it was there before", y.set(5, 1, 9), PLACE);
        y.row(5, 2, 0);
        due("no place at all", y.set(5, 0, 9), PLACE);
        y.drop(5);
        due("missing", y.set(5, 0, 9), NULL);
        due("missing, ahead of PLACE", y.set(5, -1, 9), NULL);
        due("missing, ahead of PLACE", y.set(5, 40, 9), NULL);
        due("BAD ahead of all", y.set(8, -1, 9), BAD);
    }

    private void copyingItems() {
        doc.promise(4, "n ITEMS of a from i on come to b from j on, as they were ahead: n.");
        for (int lane = 0; lane < 3; lane++) {
            NewsShips x = Check.with("p6;");
            Check.fillAs(x, 0, lane, 1, 2, 3, 4, 5, 0);
            Check.fillAs(x, 1, lane, 0, 0, 0, 0, 0, 0, 0);
            due("copy", x.copy(0, 1, 1, 2, 3), 3);
            items("come", x, 1, 0, 0, 2, 3, 4, 0);
            items("stay", x, 0, 1, 2, 3, 4, 5);
            due("upon itself, behind", x.copy(0, 0, 0, 1, 4), 4);
            items("upon itself, behind", x, 0, 1, 1, 2, 3, 4);
            due("upon itself, ahead", x.copy(0, 2, 0, 0, 3), 3);
            items("upon itself, ahead", x, 0, 2, 3, 4, 3, 4);
            due("upon itself, the same places", x.copy(0, 0, 0, 0, 6), 6);
            items("upon itself, the same places", x, 0, 2, 3, 4, 3, 4);
            due("none", x.copy(0, 0, 1, 0, 0), 0);
            items("none", x, 1, 0, 0, 2, 3, 4, 0);
            due("one", x.copy(0, 0, 1, 0, 1), 1);
            items("one", x, 1, 2, 0, 2, 3, 4, 0);
        }
        NewsShips whole = Check.with("p6;");
        whole.row(6, 1, 40);
        whole.row(7, 1, 40);
        for (int i = 0; i < 40; i++) {
            whole.set(6, i, i % 6);
        }
        due("a whole row", whole.copy(6, 0, 7, 0, 40), 40);
        for (int i = 0; i < 39; i++) {
            due("item " + i, item(whole, 7, i), i % 6);
        }

        doc.promise(4, "BAD: ROWS; NULL; STORE; PLACE");
        NewsShips y = new NewsShips();
        for (int row = 0; row < 8; row++) {
            y.row(row, 0, 4);
        }
        Check.range("a", 0, 7, v -> y.copy(v, 0, 0, 0, 1));
        Check.range("b", 0, 7, v -> y.copy(0, 0, v, 0, 1));
        y.drop(2);
        y.drop(3);
        due("a is missing", y.copy(2, 0, 0, 0, 1), NULL);
        due("b is missing", y.copy(0, 0, 2, 0, 1), NULL);
        due("both are", y.copy(2, 0, 3, 0, 1), NULL);
        due("one upon itself is", y.copy(2, 0, 2, 0, 0), NULL);
        due("BAD b ahead of NULL", y.copy(2, 0, 8, 0, 1), BAD);
        due("BAD a ahead of NULL", y.copy(-1, 0, 2, 0, 1), BAD);
        due("NULL ahead of PLACE", y.copy(2, -1, 0, 0, 1), NULL);
        due("NULL ahead of PLACE", y.copy(0, 0, 2, 5, 1), NULL);
        due("NULL ahead of PLACE", y.copy(0, 0, 2, 0, -1), NULL);
        for (int lane = 0; lane < 3; lane++) {
            y.row(lane, lane, 4);
        }
        for (int a = 0; a < 3; a++) {
            for (int b = 0; b < 3; b++) {
                due("lanes " + a + " and " + b, y.copy(a, 0, b, 0, 4), a == b ? 4 : STORE);
                due("none of them", y.copy(a, 0, b, 0, 0), a == b ? 0 : STORE);
                due("STORE ahead of PLACE", y.copy(a, 1, b, 0, 4), a == b ? PLACE : STORE);
                due("STORE ahead of PLACE", y.copy(a, 0, b, -1, 4), a == b ? PLACE : STORE);
                due("STORE ahead of PLACE", y.copy(a, 0, b, 0, -1), a == b ? PLACE : STORE);
            }
        }
        due("a missing one has no lane", y.copy(2, 0, 3, 0, 1), NULL);
    }

    private void copyingPlaces() {
        doc.promise(4, "(i, j, n below 0, or beyond an end).");
        NewsShips x = new NewsShips();
        x.row(0, 1, 5);
        x.row(1, 1, 8);
        due("to the end of a", x.copy(0, 2, 1, 0, 3), 3);
        due("beyond it", x.copy(0, 3, 1, 0, 3), PLACE);
        due("beyond it", x.copy(0, 2, 1, 0, 4), PLACE);
        due("to the end of b", x.copy(0, 0, 1, 5, 3), 3);
        due("beyond it", x.copy(0, 0, 1, 6, 3), PLACE);
        due("beyond it", x.copy(0, 0, 1, 5, 4), PLACE);
        due("all of a", x.copy(0, 0, 1, 0, 5), 5);
        due("more than a has, not more than b has", x.copy(0, 0, 1, 0, 6), PLACE);
        due("all of b does not come to a", x.copy(1, 0, 0, 0, 6), PLACE);
        due("i = 0", x.copy(0, 0, 1, 1, 1), 1);
        due("i = -1", x.copy(0, -1, 1, 1, 1), PLACE);
        due("j = 0", x.copy(0, 1, 1, 0, 1), 1);
        due("j = -1", x.copy(0, 1, 1, -1, 1), PLACE);
        due("n = 0", x.copy(0, 1, 1, 1, 0), 0);
        due("n = -1", x.copy(0, 1, 1, 1, -1), PLACE);
        due("i = -1 of none", x.copy(0, -1, 1, 0, 0), PLACE);
        due("j = -1 of none", x.copy(0, 0, 1, -1, 0), PLACE);
        due("none at the end of a", x.copy(0, 5, 1, 0, 0), 0);
        due("none beyond it", x.copy(0, 6, 1, 0, 0), PLACE);
        due("none at the end of b", x.copy(0, 0, 1, 8, 0), 0);
        due("none beyond it", x.copy(0, 0, 1, 9, 0), PLACE);
        for (int far : new int[] {LEAST, MOST, MOST - 4, LEAST + 4}) {
            due("i = " + far, x.copy(0, far, 1, 0, 5), PLACE);
            due("j = " + far, x.copy(0, 0, 1, far, 5), PLACE);
            due("n = " + far, x.copy(0, 1, 1, 1, far), PLACE);
            due("all = " + far, x.copy(0, far, 1, far, far), PLACE);
        }
        x.row(2, 1, 0);
        due("of an empty row", x.copy(2, 0, 1, 0, 0), 0);
        due("of an empty row", x.copy(2, 0, 1, 0, 1), PLACE);
        due("to an empty row", x.copy(1, 0, 2, 0, 0), 0);
        due("to an empty row", x.copy(1, 0, 2, 0, 1), PLACE);
    }

    private void dropping() {
        doc.promise(5, "A ROW is missing from now on: how many ITEMS it had. BAD; NULL.");
        NewsShips x = new NewsShips();
        for (int row = 0; row < 8; row++) {
            x.row(row, 2, 5 * row + 5);
        }
        due("all rows", x.count(0), 8);
        for (int bad : new int[] {-1, 8, LEAST, MOST}) {
            due("drop(" + bad + ")", x.drop(bad), BAD);
        }
        due("all rows still", x.count(0), 8);
        for (int row = 7; row >= 0; row--) {
            due("drop(" + row + ")", x.drop(row), 5 * row + 5);
            due("rows left", x.count(0), row);
            due("it is missing", x.drop(row), NULL);
            due("it is missing", x.set(row, 0, 1), NULL);
        }
        x.row(0, 0, 0);
        due("an empty one", x.drop(0), 0);
        due("is missing, too", x.drop(0), NULL);
    }
}
