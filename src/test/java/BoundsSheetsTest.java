/** Promises 27 to 32, and "SHEETS 0 .. 3": each sentence that names a boundary has a test of its own. */
public final class BoundsSheetsTest {
    private static final Due due = new Due();
    private static final int LEAST = Integer.MIN_VALUE;
    private static final int MOST = Integer.MAX_VALUE;
    /** Rows as Whole.rows makes them, on a still street of one WALL. */
    private static final Edge ROWS = new Edge(due, BoundsSheetsTest::still);
    private static final Edge RICH = new Edge(due, Whole::rich);
    private static final Edge NEW = new Edge(due, QuarrelWalls::new);
    private static final Edge ALONE = new Edge(due, () -> {
        QuarrelWalls x = Due.of("7;a9");
        Whole.rows(x);
        return x;
    });

    public static void main(String[] args) {
        seenIsAsTold();
        seenFindsInThisOrder();
        oneToSixMichaelmases();
        quarrelsNoughtToNinetyNine();
        theNextMichaelmases();
        fromWithinAYear();
        aRowThatCannotBe();
        filmIsAsTold();
        filmFindsInThisOrder();
        aFilmThatFitsToTheItem();
        sheetIsAsTold();
        aNewRow();
        dropIsAsTold();
        itemIsAsTold();
        itemFindsInThisOrder();
        itsLowestBits();
        copyIsAsTold();
        copyFindsInThisOrder();
        copyToTheItem();
        asIfAllWereTakenAhead();
        everyLaneAndLength();
        due.end();
    }

    private static QuarrelWalls still() {
        QuarrelWalls x = new QuarrelWalls();
        Whole.still(x);
        Whole.rows(x);
        return x;
    }

    private static void row(QuarrelWalls x, int sheet, int lane, long... items) {
        due.due("a row", x.sheet(sheet, lane, items.length), items.length);
        for (int i = 0; i < items.length; i++) {
            due.due("an item", x.item(sheet, lane, i, items[i]), 1);
        }
    }

    private static void shows(String what, QuarrelWalls x, int sheet, int lane, int... items) {
        for (int i = 0; i < items.length; i++) {
            due.due(what + ": item " + i, Whole.item(x, sheet, lane, i), 5 * items[i]);
        }
        due.due(what + ": and no more", Whole.item(x, sheet, lane, items.length), -13);
    }

    /** "n MICHAELMASES (1 .. 6)", "how many (what 0), the least (1; NONE). BAD". */
    private static void seenIsAsTold() {
        ROWS.within("seen's WALL", (x, v) -> x.seen(v, 0, 0, 0, 1, 1), 0, 0, 15, 15);
        ROWS.within("seen's SHEET", (x, v) -> x.seen(0, v, 0, 0, 1, 1), 0, 3, 15, -12);
        ROWS.within("seen's LANE", (x, v) -> x.seen(0, 0, v, 0, 1, 1), 0, 3, 15, -12);
        ROWS.within("seen's n", (x, v) -> x.seen(0, 1, 2, 0, v, 0), 1, 6, 5, 0);
        ROWS.within("seen's what", (x, v) -> x.seen(0, 0, 0, 0, 1, v), 0, 1, 5, 15);
        NEW.refuses("seen without GARDENS", (x, v) -> x.seen(v, 0, 0, 0, 1, 0), 0, -1);
        ALONE.refuses("seen of one alone", (x, v) -> x.seen(v, 0, 0, 0, 1, 0), 0, -1);
        RICH.within("seen's WALL of two", (x, v) -> x.seen(v, 0, 0, 0, 1, 0), 0, 1, 5, 5);
        RICH.onlyAsks("seen", (x, v) -> x.seen(0, 1, 2, 0, v, 0), 6);
        RICH.onlyAsks("seen", (x, v) -> x.seen(1, 1, 2, 0, v, 1), 6);
    }

    /** "BAD; NULL; CAST; INDEX." */
    private static void seenFindsInThisOrder() {
        ROWS.outside("seen's item of 5", (x, v) -> x.seen(0, 0, 0, v, 1, 0), 0, 4, -13);
        ROWS.answers("seen's last item", (x, v) -> x.seen(0, 0, 0, v, 1, 1), 4, 35);
        ROWS.refuses("two from the last item on", (x, v) -> x.seen(0, 0, 0, v, 2, 0), 4, -13);
        ROWS.answers("two from the last but one on", (x, v) -> x.seen(0, 0, 0, v, 2, 0), 3, 4);
        ROWS.answers("five of five", (x, v) -> x.seen(0, 0, 0, 0, v, 0), 5, 0);
        ROWS.refuses("six of five", (x, v) -> x.seen(0, 0, 0, 0, v, 0), 6, -13);
        ROWS.refuses("six from -1 on", (x, v) -> x.seen(0, 1, 2, v, 6, 0), -1, -13);
        ROWS.answers("six from 2 on of eight", (x, v) -> x.seen(0, 1, 2, v, 6, 0), 2, 0);
        ROWS.refuses("six from 3 on of eight", (x, v) -> x.seen(0, 1, 2, v, 6, 0), 3, -13);
        ROWS.refuses("one of none", (x, v) -> x.seen(0, 3, 3, v, 1, 0), 0, -13);
        ROWS.refuses("another LANE", (x, v) -> x.seen(0, 0, v, 0, 1, 0), 1, -12);
        ROWS.refuses("CAST ahead of INDEX", (x, v) -> x.seen(0, 0, 1, v, 1, 0), 99, -12);
        ROWS.refuses("NULL", (x, v) -> x.seen(0, v, 0, 0, 1, 0), 2, -11);
        ROWS.refuses("NULL ahead of CAST and INDEX", (x, v) -> x.seen(0, 2, 3, v, 1, 0), -1, -11);
        ROWS.refuses("BAD ahead of NULL, n", (x, v) -> x.seen(0, 2, 0, 0, v, 0), 0, -1);
        ROWS.refuses("BAD ahead of NULL, what", (x, v) -> x.seen(0, 2, 0, 0, 1, v), 2, -1);
        ROWS.refuses("BAD ahead of NULL, WALL", (x, v) -> x.seen(v, 2, 0, 0, 1, 0), 1, -1);
        ROWS.refuses("BAD ahead of NULL, LANE", (x, v) -> x.seen(0, 2, v, 0, 1, 0), 4, -1);
        ROWS.refuses("BAD ahead of CAST", (x, v) -> x.seen(0, 0, 1, 0, v, 0), 7, -1);
        ROWS.refuses("BAD ahead of INDEX", (x, v) -> x.seen(0, 0, 0, 99, v, 0), 7, -1);
        ROWS.refuses("i and n beyond all numbers", (x, v) -> x.seen(0, 0, 0, v, 6, 0), MOST - 2, -13);
    }

    /** "behind each of the next n MICHAELMASES (1 .. 6)". */
    private static void oneToSixMichaelmases() {
        QuarrelWalls x = still();
        row(x, 0, 2, 4, 4, 4, 4, 4, 5);
        for (int n = 1; n <= 6; n++) {
            due.due("of " + n, x.seen(0, 0, 2, 0, n, 0), n < 6 ? 5 : 0);
            due.due("the least of " + n, x.seen(0, 0, 2, 0, n, 1), n < 6 ? 20 : -4);
        }
        row(x, 0, 2, 4, 4, 4, 4, 4, 4);
        due.due("of six", x.seen(0, 0, 2, 0, 6, 0), 5);
        row(x, 0, 2, 5, 4, 4, 4, 4, 4);
        due.due("the first of six", x.seen(0, 0, 2, 0, 6, 0), 0);
    }

    /** "of how great its QUARREL might be now (0 .. 99)": how many; the least; none. */
    private static void quarrelsNoughtToNinetyNine() {
        QuarrelWalls x = still();
        for (int courses = 0; courses <= 19; courses++) {
            row(x, 0, 0, courses);
            due.due("how many for " + courses, x.seen(0, 0, 0, 0, 1, 0), 5);
            due.due("the least for " + courses, x.seen(0, 0, 0, 0, 1, 1), 5 * courses);
        }
        x.rule(1, 9);
        x.rule(0, 52);
        row(x, 0, 0, 0);
        due.due("EASE makes nothing of all", x.seen(0, 0, 0, 0, 1, 0), 100);
        due.due("the least of all", x.seen(0, 0, 0, 0, 1, 1), 0);
        QuarrelWalls y = still();
        y.rule(1, 2);
        row(y, 0, 0, 19);
        due.due("99 and 4 less are 95: one alone", y.seen(0, 0, 0, 0, 1, 0), 1);
        due.due("it is 99", y.seen(0, 0, 0, 0, 1, 1), 99);
        QuarrelWalls z = Due.of("2;a900,a9");
        z.rule(1, 0);
        row(z, 0, 0, 5);
        // 14 more in each of 2 WEEKS: QUARREL 0 makes 28, which is 5 COURSES
        due.due("0 and 1", z.seen(0, 0, 0, 0, 1, 0), 2);
        due.due("0", z.seen(0, 0, 0, 0, 1, 1), 0);
    }

    /** "all else as it is": COURSES, the WEEK, EASE; the QUARREL as it is bears nothing on it. */
    private static void theNextMichaelmases() {
        for (int n = 1; n <= 6; n++) {
            QuarrelWalls y = Due.of("6;p730,s460,m9");
            y.weeks(8);
            y.sheet(0, 1, 24);
            for (int m = 0; m < n; m++) {
                y.item(0, 1, 24 - n + m, y.ahead(0, 4 + 6 * m, 0));
            }
            due.holds("what will be might be", y.seen(0, 0, 1, 24 - n, n, 0) > 0);
            due.holds("the least is no more than it is", y.seen(0, 0, 1, 24 - n, n, 1) <= y.wall(0, 1));
            int many = y.seen(0, 0, 1, 24 - n, n, 0);
            y.gift(0, 0, 400);
            due.due("whatever the QUARREL is", y.seen(0, 0, 1, 24 - n, n, 0), many);
        }
    }

    /** "behind each of the next n MICHAELMASES": the first is as far as it is now, then a YEAR each. */
    private static void fromWithinAYear() {
        QuarrelWalls x = Due.of("9;p000,p0");
        x.weeks(5);
        // EASE 1: 4 less till the first, 9 less till each one more
        row(x, 0, 2, 2, 0, 0);
        due.due("14 .. 18", x.seen(0, 0, 2, 0, 1, 0), 5);
        due.due("from 14 on", x.seen(0, 0, 2, 0, 1, 1), 14);
        due.due("14 .. 17", x.seen(0, 0, 2, 0, 2, 0), 4);
        due.due("from 14 on", x.seen(0, 0, 2, 0, 2, 1), 14);
        row(x, 0, 2, 2, 1, 0);
        due.due("18", x.seen(0, 0, 2, 0, 3, 0), 1);
        due.due("it is 18", x.seen(0, 0, 2, 0, 3, 1), 18);
        row(x, 0, 2, 2, 2);
        due.due("none", x.seen(0, 0, 2, 0, 2, 0), 0);
        x.weeks(3);
        row(x, 0, 2, 0);
        due.due("1 to go: 0 .. 5", x.seen(0, 0, 2, 0, 1, 0), 6);
        x.weeks(1);
        due.due("9 to go: 0 .. 13", x.seen(0, 0, 2, 0, 1, 0), 14);
    }

    /** A row may tell what no WALL can be: below 0, above 19, beyond an int. */
    private static void aRowThatCannotBe() {
        QuarrelWalls x = still();
        long[] none = {-1, 20, 127, -128, 99};
        for (long item : none) {
            for (int lane = 0; lane < 4; lane++) {
                row(x, 0, lane, item);
                due.due("how many for " + item, x.seen(0, 0, lane, 0, 1, 0), 0);
                due.due("the least for " + item, x.seen(0, 0, lane, 0, 1, 1), -4);
            }
        }
        long[] longs = {Long.MIN_VALUE, Long.MAX_VALUE, 1L << 32, (1L << 32) + 3, -(1L << 32) + 3, 1L << 63};
        for (long item : longs) {
            row(x, 0, 3, item);
            due.due("how many for " + item, x.seen(0, 0, 3, 0, 1, 0), 0);
        }
        row(x, 0, 3, 3, Long.MAX_VALUE);
        due.due("the second cannot be", x.seen(0, 0, 3, 0, 2, 0), 0);
        due.due("the first can", x.seen(0, 0, 3, 0, 1, 0), 5);
    }

    /** "QUARREL of a WALL behind 1, 2, .. n WEEKS (1 .. 24)": n. BAD. */
    private static void filmIsAsTold() {
        Edge long24 = new Edge(due, () -> {
            QuarrelWalls x = still();
            x.sheet(2, 1, 24);
            return x;
        });
        long24.within("film's n", (x, v) -> x.film(0, v, 2, 1, 0), 1, 24, 1, 24);
        long24.within("film's WALL", (x, v) -> x.film(v, 1, 2, 1, 0), 0, 0, 1, 1);
        ROWS.within("film's SHEET", (x, v) -> x.film(0, 1, v, 0, 0), 0, 3, 1, -12);
        ROWS.within("film's LANE", (x, v) -> x.film(0, 1, 0, v, 0), 0, 3, 1, -12);
        NEW.refuses("film without GARDENS", (x, v) -> x.film(v, 1, 0, 0, 0), 0, -1);
        ALONE.refuses("film of one alone", (x, v) -> x.film(v, 1, 0, 0, 0), 0, -1);
        RICH.outside("film's WALL of two", (x, v) -> x.film(v, 1, 0, 0, 0), 0, 1, -1);
    }

    /** "likewise ... BAD; NULL; CAST; INDEX." */
    private static void filmFindsInThisOrder() {
        ROWS.outside("film's item of 5", (x, v) -> x.film(0, 1, 0, 0, v), 0, 4, -13);
        ROWS.refuses("two from the last item on", (x, v) -> x.film(0, 2, 0, 0, v), 4, -13);
        ROWS.refuses("six of five", (x, v) -> x.film(0, v, 0, 0, 0), 6, -13);
        ROWS.refuses("24 of five", (x, v) -> x.film(0, v, 0, 0, 0), 24, -13);
        ROWS.refuses("one of none", (x, v) -> x.film(0, v, 3, 3, 0), 1, -13);
        ROWS.refuses("i and n beyond all numbers", (x, v) -> x.film(0, 24, 0, 0, v), MOST - 2, -13);
        ROWS.refuses("another LANE", (x, v) -> x.film(0, 1, 0, v, 0), 1, -12);
        ROWS.refuses("CAST ahead of INDEX", (x, v) -> x.film(0, 1, 0, 1, v), 99, -12);
        ROWS.refuses("NULL", (x, v) -> x.film(0, 1, v, 0, 0), 2, -11);
        ROWS.refuses("NULL ahead of CAST and INDEX", (x, v) -> x.film(0, 1, 2, 3, v), -1, -11);
        ROWS.refuses("BAD ahead of NULL, n", (x, v) -> x.film(0, v, 2, 0, 0), 0, -1);
        ROWS.refuses("BAD ahead of NULL, WALL", (x, v) -> x.film(v, 1, 2, 0, 0), 1, -1);
        ROWS.refuses("BAD ahead of CAST", (x, v) -> x.film(0, v, 0, 1, 0), 25, -1);
        ROWS.refuses("BAD ahead of INDEX", (x, v) -> x.film(0, v, 0, 0, 99), 25, -1);
    }

    /** "an item each": the QUARREL behind 1 WEEK is the first, and the items ahead of and behind it stay. */
    private static void aFilmThatFitsToTheItem() {
        for (int lane = 0; lane < 4; lane++) {
            QuarrelWalls x = Due.of("3;p600,p0");
            row(x, 0, lane, 11, 12, 13, 14, 15, 16);
            due.due("film", x.film(0, 4, 0, lane, 1), 4);
            due.due("nothing is changed", x.count(1), 0);
            Whole.still(x);
            shows("film of LANE " + lane, x, 0, lane, 11, 1, 2, 3, 4, 16);
            Due.street(x, "52;p019,p0");
            due.due("film to the last item", x.film(0, 2, 0, lane, 4), 2);
            Whole.still(x);
            shows("film to the last item", x, 0, lane, 11, 1, 2, 3, 19, 19);
        }
        QuarrelWalls x = Due.of("52;p019,p0");
        x.sheet(0, 0, 24);
        due.due("24 of 24", x.film(0, 24, 0, 0, 0), 24);
        Whole.still(x);
        int[] ease = {18, 17, 16, 15, 14, 13, 12, 11, 10, 9, 8, 7, 6, 5, 4, 3, 2, 1, 0, 0, 0, 0, 0, 0};
        shows("24 WEEKS", x, 0, 0, ease);
    }

    /** "sheets 0 .. 3", "a row of a LANE: 0 bytes, 1 shorts, 2 ints, 3 longs, of 0 to 24 items"; "BAD: also n above 24; SIZE: n below 0". */
    private static void sheetIsAsTold() {
        ROWS.within("sheet's SHEET", (x, v) -> x.sheet(v, 0, 7), 0, 3, 7, 7);
        ROWS.within("sheet's LANE", (x, v) -> x.sheet(2, v, 7), 0, 3, 7, 7);
        ROWS.answers("no items", (x, v) -> x.sheet(0, 0, v), 0, 0);
        ROWS.answers("one item", (x, v) -> x.sheet(0, 0, v), 1, 1);
        ROWS.answers("24 items", (x, v) -> x.sheet(0, 0, v), 24, 24);
        ROWS.refuses("25 items", (x, v) -> x.sheet(0, 0, v), 25, -1);
        ROWS.refuses("most items", (x, v) -> x.sheet(0, 0, v), MOST, -1);
        ROWS.refuses("-1 items", (x, v) -> x.sheet(0, 0, v), -1, -14);
        ROWS.refuses("least items", (x, v) -> x.sheet(0, 0, v), LEAST, -14);
        ROWS.refuses("-1 items where nothing is", (x, v) -> x.sheet(2, 0, v), -1, -14);
        ROWS.refuses("25 items where nothing is", (x, v) -> x.sheet(2, 0, v), 25, -1);
        ROWS.refuses("BAD ahead of SIZE, SHEET", (x, v) -> x.sheet(v, 0, -1), 4, -1);
        ROWS.refuses("BAD ahead of SIZE, LANE", (x, v) -> x.sheet(0, v, -1), 4, -1);
        ROWS.refuses("BAD ahead of SIZE, LANE", (x, v) -> x.sheet(0, v, LEAST), -1, -1);
    }

    /** "A SHEET holds a new row of a LANE": in place of an earlier one, whatever it held. */
    private static void aNewRow() {
        QuarrelWalls x = still();
        x.sheet(1, 2, 24);
        for (int i = 0; i < 24; i++) {
            x.item(1, 2, i, 7);
        }
        due.due("a shorter one", x.sheet(1, 2, 3), 3);
        shows("a shorter one", x, 1, 2, 0, 0, 0);
        due.due("as long as before", x.sheet(1, 2, 24), 24);
        shows("as long as before", x, 1, 2, new int[24]);
        due.due("of another LANE", x.sheet(1, 3, 2), 2);
        due.due("no longer ints", x.item(1, 2, 0, 1), -12);
        shows("of longs", x, 1, 3, 0, 0);
        due.due("none", x.sheet(1, 0, 0), 0);
        shows("none", x, 1, 0);
        shows("the others stay", x, 0, 0, 3, 4, 5, 6, 7);
    }

    /** "A SHEET holds nothing: how many items it had. BAD; NULL." */
    private static void dropIsAsTold() {
        ROWS.within("drop's SHEET", (x, v) -> x.drop(v), 0, 3, 5, 0);
        ROWS.refuses("NULL", (x, v) -> x.drop(v), 2, -11);
        NEW.refuses("NULL at first", (x, v) -> x.drop(v), 0, -11);
        NEW.refuses("NULL at first", (x, v) -> x.drop(v), 3, -11);
        for (int n = 0; n <= 24; n++) {
            QuarrelWalls x = still();
            x.sheet(2, n % 4, n);
            due.due("drop of " + n, x.drop(2), n);
            due.due("nothing is left", x.drop(2), -11);
            due.due("no items", x.item(2, n % 4, 0, 1), -11);
            due.due("the others stay", x.drop(0), 5);
        }
    }

    /** "Item i of a SHEET, taken as a row of a LANE, becomes v". BAD. */
    private static void itemIsAsTold() {
        ROWS.within("item's SHEET", (x, v) -> x.item(v, 0, 0, 9), 0, 3, 1, -12);
        ROWS.within("item's LANE", (x, v) -> x.item(0, v, 0, 9), 0, 3, 1, -12);
        ROWS.answers("the first item", (x, v) -> x.item(0, 0, v, 9), 0, 1);
        ROWS.answers("the last item", (x, v) -> x.item(0, 0, v, 9), 4, 1);
        QuarrelWalls x = still();
        x.item(0, 0, 0, 19);
        x.item(0, 0, 4, 0);
        shows("the others stay", x, 0, 0, 19, 4, 5, 6, 0);
        shows("other SHEETS stay", x, 1, 2, 19, 18, 17, 16, 15, 0, 0, 0);
    }

    /** "BAD; NULL; CAST; INDEX." */
    private static void itemFindsInThisOrder() {
        ROWS.outside("item of 5", (x, v) -> x.item(0, 0, v, 9), 0, 4, -13);
        ROWS.outside("item of none", (x, v) -> x.item(3, 3, v, 9), 0, -1, -13);
        ROWS.refuses("another LANE", (x, v) -> x.item(0, v, 0, 9), 1, -12);
        ROWS.refuses("another LANE", (x, v) -> x.item(1, v, 0, 9), 3, -12);
        ROWS.refuses("CAST ahead of INDEX", (x, v) -> x.item(0, 1, v, 9), 5, -12);
        ROWS.refuses("CAST of no items", (x, v) -> x.item(3, v, 0, 9), 0, -12);
        ROWS.refuses("NULL", (x, v) -> x.item(v, 0, 0, 9), 2, -11);
        ROWS.refuses("NULL ahead of INDEX", (x, v) -> x.item(2, 0, v, 9), -1, -11);
        ROWS.refuses("BAD ahead of NULL", (x, v) -> x.item(2, v, 0, 9), 4, -1);
        ROWS.refuses("BAD ahead of INDEX", (x, v) -> x.item(0, v, 99, 9), -1, -1);
    }

    /** "becomes v, its lowest bits": 8, 16, 32, 64 of them. */
    private static void itsLowestBits() {
        int[] bits = {8, 16, 32, 64};
        for (int lane = 0; lane < 4; lane++) {
            QuarrelWalls x = still();
            x.sheet(2, lane, 1);
            for (int bit = 0; bit < 64; bit++) {
                x.item(2, lane, 0, 1L << bit);
                // bits 0 .. 4 alone are numbers of 0 .. 16, which a WALL can tell
                int want = bit >= bits[lane] ? 0 : bit <= 4 ? 5 << bit : -4;
                due.due("LANE " + lane + ", bit " + bit, Whole.item(x, 2, lane, 0), want);
            }
            x.item(2, lane, 0, -1L << bits[lane] - 1);
            due.due("the least of LANE " + lane, Whole.item(x, 2, lane, 0), -4);
            x.item(2, lane, 0, -1);
            due.due("-1 is no 19 at most", Whole.item(x, 2, lane, 0), -4);
            if (lane < 3) {
                x.item(2, lane, 0, (1L << bits[lane]) + 7);
                due.due("all bits of 1 and 7", Whole.item(x, 2, lane, 0), 35);
                x.item(2, lane, 0, (-1L << bits[lane]) + 7);
                due.due("all bits of -1 and 7", Whole.item(x, 2, lane, 0), 35);
            }
        }
    }

    /** "n items of a SHEET from i on come to another one (or the same) from j on": n. BAD. */
    private static void copyIsAsTold() {
        ROWS.within("copy's first SHEET", (x, v) -> x.copy(v, 0, 0, 0, 1), 0, 3, 1, -12);
        ROWS.within("copy's second SHEET", (x, v) -> x.copy(0, 0, v, 0, 1), 0, 3, 1, -12);
        NEW.refuses("copy of a new one", (x, v) -> x.copy(v, 0, 1, 0, 0), 0, -11);
    }

    /** "BAD; NULL (either); CAST: of unlike LANES; INDEX." */
    private static void copyFindsInThisOrder() {
        ROWS.refuses("NULL, the first", (x, v) -> x.copy(v, 0, 0, 0, 1), 2, -11);
        ROWS.refuses("NULL, the second", (x, v) -> x.copy(0, 0, v, 0, 1), 2, -11);
        ROWS.refuses("NULL, both", (x, v) -> x.copy(v, 0, v, 0, 1), 2, -11);
        ROWS.refuses("NULL ahead of INDEX", (x, v) -> x.copy(0, v, 2, 0, 1), -1, -11);
        ROWS.refuses("NULL ahead of CAST, the second", (x, v) -> x.copy(1, 0, v, 0, 1), 2, -11);
        ROWS.refuses("NULL ahead of CAST, the first", (x, v) -> x.copy(v, 0, 3, 0, 1), 2, -11);
        QuarrelWalls dropped = still();
        dropped.drop(1);
        due.due("NULL ahead of CAST, dropped", dropped.copy(0, 0, 1, 0, 1), -11);
        due.due("NULL ahead of CAST, dropped", dropped.copy(1, 0, 0, 0, 1), -11);
        ROWS.refuses("NULL for no items", (x, v) -> x.copy(0, 0, 2, 0, v), 0, -11);
        ROWS.refuses("CAST", (x, v) -> x.copy(0, 0, v, 0, 1), 1, -12);
        ROWS.refuses("CAST for no items", (x, v) -> x.copy(0, 0, 1, 0, v), 0, -12);
        ROWS.refuses("CAST ahead of INDEX", (x, v) -> x.copy(0, 0, 1, 0, v), -1, -12);
        ROWS.refuses("CAST ahead of INDEX", (x, v) -> x.copy(0, v, 3, 0, 1), 99, -12);
        ROWS.refuses("BAD ahead of NULL", (x, v) -> x.copy(2, 0, v, 0, 1), 4, -1);
        ROWS.refuses("BAD ahead of NULL", (x, v) -> x.copy(v, 0, 2, 0, 1), -1, -1);
        ROWS.refuses("BAD ahead of INDEX", (x, v) -> x.copy(0, 99, v, 0, 1), 4, -1);
    }

    /** INDEX: from i and from j on there must be n items, no fewer than none. */
    private static void copyToTheItem() {
        int[][] fine = {{0, 0, 5}, {0, 0, 0}, {5, 5, 0}, {0, 5, 0}, {5, 0, 0}, {4, 0, 1}, {0, 4, 1}, {1, 0, 4}, {0, 1, 4}};
        for (int[] c : fine) {
            QuarrelWalls x = still();
            row(x, 2, 0, 15, 16, 17, 18, 19);
            due.due("copy from " + c[0] + " to " + c[1] + ", " + c[2], x.copy(0, c[0], 2, c[1], c[2]), c[2]);
            int[] then = {15, 16, 17, 18, 19};
            for (int k = 0; k < c[2]; k++) {
                then[c[1] + k] = 3 + c[0] + k;
            }
            shows("then", x, 2, 0, then);
            shows("and the other stays", x, 0, 0, 3, 4, 5, 6, 7);
        }
        int[][] wrong = {{0, 0, 6}, {6, 0, 0}, {0, 6, 0}, {5, 0, 1}, {0, 5, 1}, {4, 0, 2}, {0, 4, 2}, {1, 0, 5}, {0, 1, 5}, {-1, 0, 1},
            {0, -1, 1}, {-1, 0, 0}, {0, -1, 0}, {0, 0, -1}, {1, 1, -1}, {5, 5, -5}, {0, 0, 24}, {0, 0, 25}, {0, 0, MOST}, {0, 0, LEAST},
            {MOST, 0, 0}, {0, MOST, 0}, {MOST, 0, 1}, {0, MOST, 1}, {LEAST, 0, 1}, {0, LEAST, 1}, {MOST, MOST, MOST}, {LEAST, 0, MOST},
            {1, 0, MOST}, {0, 1, MOST}, {MOST, 0, LEAST}, {LEAST, LEAST, LEAST}};
        for (int[] c : wrong) {
            new Edge(due, () -> {
                QuarrelWalls x = still();
                row(x, 2, 0, 15, 16, 17, 18, 19);
                return x;
            }).refuses("copy from " + c[0] + " to " + c[1] + ",", (x, v) -> x.copy(0, c[0], 2, c[1], v), c[2], -13);
        }
        QuarrelWalls x = still();
        x.sheet(2, 0, 8);
        due.due("of five six", x.copy(0, 0, 2, 0, 6), -13);
        due.due("to five six", x.copy(2, 0, 0, 0, 6), -13);
        due.due("of none none", x.copy(3, 0, 3, 0, 0), 0);
        due.due("of none one", x.copy(3, 0, 3, 0, 1), -13);
    }

    /** "as if all were taken ahead": within one SHEET, to either side, and onto itself. */
    private static void asIfAllWereTakenAhead() {
        for (int i = 0; i <= 5; i++) {
            for (int j = 0; j <= 5; j++) {
                for (int n = 0; n <= 5 - Math.max(i, j); n++) {
                    QuarrelWalls x = still();
                    int[] then = {3, 4, 5, 6, 7};
                    for (int k = 0; k < n; k++) {
                        then[j + k] = 3 + i + k;
                    }
                    due.due("copy within", x.copy(0, i, 0, j, n), n);
                    shows("copy within from " + i + " to " + j + ", " + n, x, 0, 0, then);
                }
            }
        }
    }

    /** Every LANE on every SHEET with 24 items, the first and the last of them. */
    private static void everyLaneAndLength() {
        for (int lane = 0; lane < 4; lane++) {
            QuarrelWalls x = still();
            for (int s = 0; s < 4; s++) {
                due.due("24 items", x.sheet(s, lane, 24), 24);
                due.due("the first", x.item(s, lane, 0, 1 + s), 1);
                due.due("the last", x.item(s, lane, 23, 11 + s), 1);
                due.due("beyond", x.item(s, lane, 24, 9), -13);
            }
            for (int s = 0; s < 4; s++) {
                due.due("the first is", Whole.item(x, s, lane, 0), 5 * (1 + s));
                due.due("the last is", Whole.item(x, s, lane, 23), 5 * (11 + s));
                due.due("those between are 0", Whole.item(x, s, lane, 1) + Whole.item(x, s, lane, 22), 0);
            }
            due.due("all 24 to another", x.copy(0, 0, 3, 0, 24), 24);
            due.due("the last came", Whole.item(x, 3, lane, 23), 55);
            due.due("25 to another", x.copy(0, 0, 3, 0, 25), -13);
        }
    }
}
