/** Promises 27 to 32: seen, film, sheet, drop, item, copy. */
public final class SheetsTest {
    private static final Due due = new Due();
    private static final int[] WRONG = {-1, 4, Integer.MIN_VALUE, Integer.MAX_VALUE};
    private static final int[] NO_INDEX = {-1, Integer.MIN_VALUE, Integer.MAX_VALUE};

    public static void main(String[] args) {
        sheets();
        items();
        copies();
        copiesWithin();
        seen();
        seenOfLanes();
        seenRefused();
        film();
        due.end();
    }

    /** Whether item i is this number: by a wall whose COURSES behind MICHAELMAS are its QUARREL by 5. */
    private static boolean shows(QuarrelWalls x, int sheet, int lane, int i, int number) {
        return x.seen(0, sheet, lane, i, 1, 1) == 5 * number;
    }

    private static QuarrelWalls still() {
        QuarrelWalls x = Due.of("2;p000,p0");
        x.rule(1, 0);
        return x;
    }

    private static void sheets() {
        QuarrelWalls x = new QuarrelWalls();
        for (int lane = 0; lane < 4; lane++) {
            due.due("sheet of none", x.sheet(lane, lane, 0), 0);
            due.due("sheet of 24", x.sheet(lane, lane, 24), 24);
            due.due("drop", x.drop(lane), 24);
            due.due("drop again", x.drop(lane), -11);
        }
        due.due("sheet(0, 0, 25)", x.sheet(0, 0, 25), -1);
        due.due("sheet(0, 0, -1)", x.sheet(0, 0, -1), -14);
        due.due("sheet(0, 0, least)", x.sheet(0, 0, Integer.MIN_VALUE), -14);
        due.due("sheet(0, 0, most)", x.sheet(0, 0, Integer.MAX_VALUE), -1);
        for (int wrong : WRONG) {
            due.due("sheet(" + wrong + ", 0, 1)", x.sheet(wrong, 0, 1), -1);
            due.due("sheet(0, " + wrong + ", 1)", x.sheet(0, wrong, 1), -1);
            due.due("bad ahead of size", x.sheet(wrong, 0, -1), -1);
            due.due("bad ahead of size", x.sheet(0, wrong, -1), -1);
            due.due("drop(" + wrong + ")", x.drop(wrong), -1);
        }
        due.due("nothing is there", x.drop(0), -11);
        x.sheet(0, 1, 7);
        x.sheet(0, 9, 3);
        x.sheet(0, 0, -1);
        due.due("what is refused changes nothing", x.drop(0), 7);
        due.due("a row of no items", x.sheet(2, 3, 0), 0);
        due.due("has none", x.item(2, 3, 0, 1), -13);
        due.due("but is there", x.drop(2), 0);

        QuarrelWalls y = still();
        y.sheet(0, 2, 5);
        for (int i = 0; i < 5; i++) {
            y.item(0, 2, i, 3);
        }
        y.sheet(0, 2, 5);
        for (int i = 0; i < 5; i++) {
            due.holds("a new row is empty, item " + i, shows(y, 0, 2, i, 0));
        }
    }

    private static void items() {
        QuarrelWalls x = still();
        long[] lowest = {256, 65536, 1L << 32};
        for (int lane = 0; lane < 4; lane++) {
            x.sheet(lane, lane, 3);
            due.due("item", x.item(lane, lane, 2, 7), 1);
            due.holds("it is 7", shows(x, lane, lane, 2, 7));
            due.holds("the others are 0", shows(x, lane, lane, 0, 0) && shows(x, lane, lane, 1, 0));
            for (int k = 0; k < 3; k++) {
                x.item(lane, lane, 0, lowest[k] + 9);
                due.holds("lane " + lane + ", " + lowest[k] + " and 9", shows(x, lane, lane, 0, 9) == (lane <= k));
            }
            due.due("item 3", x.item(lane, lane, 3, 7), -13);
            for (int wrong : NO_INDEX) {
                due.due("item " + wrong, x.item(lane, lane, wrong, 7), -13);
            }
            due.due("another lane", x.item(lane, (lane + 1) % 4, 0, 7), -12);
            due.due("cast ahead of index", x.item(lane, (lane + 3) % 4, 9, 7), -12);
        }
        for (int wrong : WRONG) {
            due.due("item(" + wrong + ", 0, 0, 1)", x.item(wrong, 0, 0, 1), -1);
            due.due("item(0, " + wrong + ", 0, 1)", x.item(0, wrong, 0, 1), -1);
        }
        x.drop(1);
        due.due("nothing there", x.item(1, 1, 0, 1), -11);
        due.due("null ahead of cast and index", x.item(1, 0, 9, 1), -11);
        due.due("bad ahead of null", x.item(1, 4, 9, 1), -1);
    }

    private static void copies() {
        QuarrelWalls x = still();
        x.sheet(0, 3, 9);
        x.sheet(1, 3, 5);
        x.sheet(2, 1, 5);
        for (int i = 0; i < 9; i++) {
            x.item(0, 3, i, i);
        }
        due.due("copy(0, 4, 1, 2, 3)", x.copy(0, 4, 1, 2, 3), 3);
        int[] row = {0, 0, 4, 5, 6};
        for (int i = 0; i < 5; i++) {
            due.holds("item " + i, shows(x, 1, 3, i, row[i]));
        }
        due.due("none at the ends", x.copy(0, 9, 1, 5, 0), 0);
        due.due("one beyond", x.copy(0, 9, 1, 0, 1), -13);
        due.due("one beyond the other", x.copy(0, 0, 1, 5, 1), -13);
        due.due("none beyond", x.copy(0, 10, 1, 0, 0), -13);
        due.due("none beyond the other", x.copy(0, 0, 1, 6, 0), -13);
        due.due("too many", x.copy(0, 0, 1, 0, 6), -13);
        for (int wrong : NO_INDEX) {
            due.due("from item " + wrong, x.copy(0, wrong, 1, 0, 1), -13);
            due.due("to item " + wrong, x.copy(0, 0, 1, wrong, 1), -13);
            due.due(wrong + " items", x.copy(0, 0, 1, 0, wrong), -13);
            due.due(wrong + " items from 1", x.copy(0, 1, 1, 1, wrong), -13);
        }
        due.due("unlike lanes", x.copy(0, 0, 2, 0, 1), -12);
        due.due("cast ahead of index", x.copy(2, 0, 0, 99, -1), -12);
        due.due("nothing there", x.copy(0, 0, 3, 0, 1), -11);
        due.due("nothing here", x.copy(3, 0, 0, 0, 1), -11);
        due.due("nothing at all", x.copy(3, 99, 3, 0, 1), -11);
        for (int wrong : WRONG) {
            due.due("copy(" + wrong + ", 0, 0, 0, 1)", x.copy(wrong, 0, 0, 0, 1), -1);
            due.due("copy(0, 0, " + wrong + ", 0, 1)", x.copy(0, 0, wrong, 0, 1), -1);
            due.due("bad ahead of null", x.copy(3, 0, wrong, 0, 1), -1);
        }
        for (int i = 0; i < 5; i++) {
            due.holds("what is refused changes nothing, item " + i, shows(x, 1, 3, i, row[i]));
        }
    }

    private static void copiesWithin() {
        for (int lane = 0; lane < 4; lane++) {
            QuarrelWalls x = still();
            x.sheet(0, lane, 6);
            for (int i = 0; i < 6; i++) {
                x.item(0, lane, i, i + 1);
            }
            due.due("to later ones", x.copy(0, 0, 0, 2, 4), 4);
            int[] row = {1, 2, 1, 2, 3, 4};
            for (int i = 0; i < 6; i++) {
                due.holds("later, item " + i, shows(x, 0, lane, i, row[i]));
            }
            due.due("to earlier ones", x.copy(0, 2, 0, 1, 4), 4);
            row = new int[] {1, 1, 2, 3, 4, 4};
            for (int i = 0; i < 6; i++) {
                due.holds("earlier, item " + i, shows(x, 0, lane, i, row[i]));
            }
        }
    }

    private static void row(QuarrelWalls x, int sheet, int lane, int... numbers) {
        x.sheet(sheet, lane, numbers.length);
        for (int i = 0; i < numbers.length; i++) {
            x.item(sheet, lane, i, numbers[i]);
        }
    }

    private static void seen(QuarrelWalls x, int wall, int many, int least, int... numbers) {
        row(x, 0, 2, numbers);
        due.due("how many", x.seen(wall, 0, 2, 0, numbers.length, 0), many);
        due.due("the least", x.seen(wall, 0, 2, 0, numbers.length, 1), least);
    }

    private static void seen() {
        QuarrelWalls x = Due.of("6;p730,s460,m915,d245,a088,p3");
        x.weeks(2);
        String was = Due.shown(x);
        seen(x, 0, 0, -4, 0);
        seen(x, 3, 5, 0, 0);
        seen(x, 0, 5, 29, 9);
        seen(x, 3, 5, 45, 9);
        seen(x, 0, 0, -4, 9, 12);
        seen(x, 3, 2, 48, 9, 12);
        seen(x, 0, 21, 79, 19, 19, 19);
        seen(x, 3, 5, 95, 19, 19, 19);
        seen(x, 0, 0, -4, -1);
        seen(x, 0, 0, -4, 20);
        QuarrelWalls y = still();
        seen(y, 0, 5, 20, 4, 4, 4, 4, 4, 4);
        due.holds("nothing changed", was.equals(Due.shown(x)));
        QuarrelWalls z = still();
        z.rule(1, 2);
        seen(z, 0, 1, 99, 19);
        seen(z, 0, 9, 0, 0);
        row(y, 1, 2, 3, 4, 4, 4, 9);
        due.due("from item 1 on", y.seen(0, 1, 2, 1, 2, 0), 5);
        due.due("from item 0 on", y.seen(0, 1, 2, 0, 2, 0), 0);
        due.due("to the last item", y.seen(0, 1, 2, 4, 1, 1), 45);
    }

    private static void seenOfLanes() {
        QuarrelWalls x = still();
        for (int lane = 0; lane < 4; lane++) {
            row(x, lane, lane, 3, 3, -1);
            due.due("lane " + lane, x.seen(0, lane, lane, 0, 2, 1), 15);
            due.due("a number below 0", x.seen(0, lane, lane, 2, 1, 0), 0);
        }
        x.item(3, 3, 0, (1L << 32) + 3);
        due.due("a long is taken whole", x.seen(0, 3, 3, 0, 1, 0), 0);
    }

    private static void seenRefused() {
        QuarrelWalls x = still();
        row(x, 0, 2, 0, 0, 0, 0, 0, 0, 0);
        due.due("7 Michaelmases", x.seen(0, 0, 2, 0, 7, 0), -1);
        due.due("none", x.seen(0, 0, 2, 0, 0, 0), -1);
        due.due("what 2", x.seen(0, 0, 2, 0, 1, 2), -1);
        due.due("wall 1", x.seen(1, 0, 2, 0, 1, 0), -1);
        for (int wrong : WRONG) {
            due.due("wall " + wrong, x.seen(wrong, 0, 2, 0, 1, 0), -1);
            due.due("sheet " + wrong, x.seen(0, wrong, 2, 0, 1, 0), -1);
            due.due("lane " + wrong, x.seen(0, 0, wrong, 0, 1, 0), -1);
            due.due("what " + wrong, x.seen(0, 0, 2, 0, 1, wrong), -1);
        }
        for (int wrong : NO_INDEX) {
            due.due("item " + wrong, x.seen(0, 0, 2, wrong, 1, 0), -13);
            due.due("item " + wrong + ", bad", x.seen(0, 0, 2, wrong, wrong, 0), -1);
        }
        due.due("item 7", x.seen(0, 0, 2, 7, 1, 0), -13);
        due.due("2 from item 6", x.seen(0, 0, 2, 6, 2, 0), -13);
        due.due("2 from item 6, of which the first tells none", x.seen(0, 0, 2, 6, 2, 1), -13);
        due.due("another lane", x.seen(0, 0, 3, 99, 1, 0), -12);
        due.due("nothing there", x.seen(0, 1, 3, 99, 1, 0), -11);
        due.due("bad ahead of null", x.seen(0, 1, 3, 99, 1, 5), -1);
        due.due("no walls", new QuarrelWalls().seen(0, 0, 0, 0, 1, 0), -1);
    }

    private static void film() {
        QuarrelWalls x = Due.of("6;p730,s460,m9");
        QuarrelWalls y = still();
        for (int lane = 0; lane < 4; lane++) {
            due.due("sheet", x.sheet(lane, lane, 24), 24);
            due.due("film of 24", x.film(1, 24, lane, lane, 0), 24);
        }
        filmIsWhatComes();
        due.due("25 weeks", x.film(0, 25, 0, 0, 0), -1);
        due.due("no weeks", x.film(0, 0, 0, 0, 0), -1);
        due.due("wall 2", x.film(2, 1, 0, 0, 0), -1);
        for (int wrong : WRONG) {
            due.due("wall " + wrong, x.film(wrong, 1, 0, 0, 0), -1);
            due.due("sheet " + wrong, x.film(0, 1, wrong, 0, 0), -1);
            due.due("lane " + wrong, x.film(0, 1, 0, wrong, 0), -1);
        }
        for (int wrong : NO_INDEX) {
            due.due("weeks " + wrong, x.film(0, wrong, 0, 0, 0), -1);
            due.due("item " + wrong, x.film(0, 1, 0, 0, wrong), -13);
        }
        due.due("item 24", x.film(0, 1, 0, 0, 24), -13);
        due.due("24 from item 1", x.film(0, 24, 0, 0, 1), -13);
        due.due("another lane", x.film(0, 1, 0, 1, 99), -12);
        x.drop(0);
        due.due("nothing there", x.film(0, 1, 0, 1, 99), -11);
        due.due("bad ahead of null", x.film(0, 0, 0, 1, 99), -1);

        y.gossip(0, 9);
        row(y, 0, 2, 1, 2, 3);
        due.due("a film that does not fit", y.film(0, 3, 0, 2, 1), -13);
        for (int i = 0; i < 3; i++) {
            due.holds("changes nothing, item " + i, shows(y, 0, 2, i, i + 1));
        }
        due.due("a film that fits", y.film(0, 2, 0, 2, 1), 2);
        due.holds("the item ahead of it stays", shows(y, 0, 2, 0, 1));
        due.holds("quarrels 9, 9", shows(y, 0, 2, 1, 9) && shows(y, 0, 2, 2, 9));
    }

    /** A street on which quarrels stay below 20, so that seen can tell each item. */
    private static void filmIsWhatComes() {
        QuarrelWalls x = Due.of("4;p302,p0");
        x.rule(1, 0);
        x.sheet(0, 1, 24);
        due.due("film", x.film(0, 12, 0, 1, 3), 12);
        int[] quarrel = new int[12];
        for (int k = 0; k < 12; k++) {
            x.weeks(1);
            quarrel[k] = x.wall(0, 1);
        }
        due.due("the quarrel grows", quarrel[11], 14);
        Due.street(x, "2;p000,p0");
        x.rule(1, 0);
        for (int k = 0; k < 12; k++) {
            due.holds("item of week " + k + " is " + quarrel[k], shows(x, 0, 1, k + 3, quarrel[k]));
        }
        due.holds("the others stay", shows(x, 0, 1, 2, 0) && shows(x, 0, 1, 15, 0));
    }
}
