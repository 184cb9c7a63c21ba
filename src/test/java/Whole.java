/**
 * All that an object holds, as a text: what the face shows, what may be undone, THE TAPE, the IMAGE, the SHEETS.
 * The object is used up by it: two objects are held side by side, one of which was asked something more.
 */
final class Whole {
    private Whole() {
    }

    /** An object that holds something of everything, with a call of each kind that can be refused as NOT. */
    static QuarrelWalls rich() {
        QuarrelWalls x = Due.of("3;p512,s399,m4");
        x.gossip(0, 3);
        x.image();
        x.rule(1, 2);
        x.weeks(7);
        // over WALL 0 an APOLOGY is too soon now; WALL 1 has no COURSES
        x.sorry(0);
        x.falls(1);
        x.seed(4711);
        rows(x);
        x.type('7');
        x.type(';');
        return x;
    }

    /** SHEET 0: 5 bytes, SHEET 1: 8 ints, SHEET 2: nothing, SHEET 3: no longs. */
    static void rows(QuarrelWalls x) {
        x.sheet(0, 0, 5);
        x.sheet(1, 2, 8);
        x.sheet(3, 3, 0);
        for (int i = 0; i < 5; i++) {
            x.item(0, 0, i, 3 + i);
            x.item(1, 2, i, 19 - i);
        }
    }

    static String of(QuarrelWalls x) {
        StringBuilder all = new StringBuilder();
        all.append("now: ").append(Due.shown(x)).append('\n');
        past(x, all);
        all.append("tape: ").append(x.type(' ')).append(' ').append(x.street()).append(' ').append(x.count(0)).append('\n');
        all.append("restore: ").append(x.restore()).append(' ').append(Due.shown(x)).append('\n');
        past(x, all);
        sheets(x, all);
        return all.toString();
    }

    private static void past(QuarrelWalls x, StringBuilder all) {
        for (int left = x.undo(); left >= 0; left = x.undo()) {
            all.append("undone, ").append(left).append(" left: week ").append(x.count(1));
            for (int g = 0; g < x.count(0); g++) {
                all.append(" paid ").append(x.of(g, 2));
            }
            for (int w = 0; w < x.count(0) - 1; w++) {
                all.append(" wall ").append(x.wall(w, 0)).append(' ').append(x.wall(w, 1)).append(' ').append(x.wall(w, 3));
            }
            all.append(" draw ").append(x.seed(0)).append('\n');
        }
    }

    static void still(QuarrelWalls x) {
        Due.street(x, "2;p000,p0");
        x.rule(1, 0);
    }

    private static void sheets(QuarrelWalls x, StringBuilder all) {
        still(x);
        for (int s = 0; s < 4; s++) {
            all.append("sheet ").append(s).append(':');
            for (int lane = 0; lane < 4; lane++) {
                // far beyond every row: INDEX, if it is of this LANE
                int answer = x.item(s, lane, 99, 0);
                all.append(' ').append(answer);
                for (int i = 0; i < 24 && answer == -13; i++) {
                    int item = item(x, s, lane, i);
                    all.append(' ').append(item);
                    answer = item == -13 ? 0 : -13;
                }
            }
            all.append(' ').append(x.drop(s)).append('\n');
        }
    }

    /** On a still street: 5 times an item of 0 .. 19; -4: it is another number; -11, -12, -13. */
    static int item(QuarrelWalls x, int sheet, int lane, int i) {
        return x.seen(0, sheet, lane, i, 1, 1);
    }
}
