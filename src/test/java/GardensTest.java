/** Promises 2 to 6 and 9: garden, of, wall, noise, rule, count. */
public final class GardensTest {
    private static final Due due = new Due();
    private static final int[] WRONG = {-1, Integer.MIN_VALUE, Integer.MAX_VALUE};

    public static void main(String[] args) {
        gardens();
        aNewGardenStartsAnew();
        whatGalls();
        whomItSees();
        ofAGarden();
        ofAWall();
        noise();
        rule();
        count();
        due.end();
    }

    private static void gardens() {
        QuarrelWalls x = new QuarrelWalls();
        due.due("garden(5, 0)", x.garden(5, 0), -1);
        due.due("garden(-1, 0)", x.garden(-1, 0), -1);
        due.due("garden(0, 10)", x.garden(0, 10), -1);
        due.due("garden(0, -1)", x.garden(0, -1), -1);
        due.due("count(0)", x.count(0), 0);
        for (int g = 0; g < 6; g++) {
            due.due("garden " + g, x.garden(g % 5, 9 - g), g);
            due.due("wall behind the last", x.wall(g, 0), -1);
            due.due("wall ahead of it", x.wall(g - 1, 1), g == 0 ? -1 : 0);
        }
        due.due("a seventh", x.garden(0, 0), -3);
        due.due("a seventh, bad", x.garden(5, 0), -1);
        due.due("a seventh, too loud", x.garden(0, 10), -1);
        for (int g = 0; g < 6; g++) {
            due.due("kind of " + g, x.of(g, 0), g % 5);
            due.due("noise of " + g, x.of(g, 1), 9 - g);
            due.due("paid by " + g, x.of(g, 2), 0);
        }
    }

    private static void aNewGardenStartsAnew() {
        QuarrelWalls x = Due.of("2;p999,p999,p9");
        x.weeks(2);
        x.sorry(1);
        due.due("street of one", Due.street(x, "12;p0"), 1);
        due.due("a second garden", x.garden(0, 0), 1);
        due.due("a third garden", x.garden(0, 0), 2);
        for (int what = 0; what < 4; what++) {
            due.due("wall(1, " + what + ") of new gardens", x.wall(1, what), what == 2 ? 99 : 0);
        }
        due.due("what all paid", x.count(6), 0);
        x.gossip(0, 3);
        x.weeks(1);
        due.due("2 to be undone", x.count(9), 2);
        due.due("refused garden", x.garden(9, 9), -1);
        due.due("still 2", x.count(9), 2);
        due.due("a fourth garden", x.garden(1, 1), 3);
        due.due("nothing to be undone", x.count(9), 0);
        due.due("undo()", x.undo(), -4);
        due.due("the week stays", x.count(1), 1);
        due.due("the quarrel stays", x.wall(0, 1), 2);
        due.due("full up", x.garden(1, 1) + x.garden(1, 1), 9);
        x.gossip(0, 3);
        due.due("refused seventh", x.garden(1, 1), -3);
        due.due("still 1", x.count(9), 1);
    }

    /** A wall of so many COURSES between a neighbour of a kind and a PLAIN one with noise. */
    private static QuarrelWalls beside(char kind, int noise, int courses) {
        QuarrelWalls x = Due.of("2;" + kind + "099,p" + noise);
        x.rule(1, 0);
        x.weeks(2);
        for (int c = 19; c > courses; c--) {
            x.lovers(0);
        }
        return x;
    }

    private static void whatGalls() {
        String kinds = "psmda";
        int[][] table = {
            // noise, courses, then by kind
            {9, 19, 6, 12, 5, 2, 13}, {0, 0, 0, 0, 0, 0, 1}, {2, 4, 0, 0, 0, 0, 1}, {3, 4, 1, 2, 0, 0, 3},
            {2, 5, 1, 2, 0, 0, 3}, {3, 5, 2, 4, 1, 0, 5}, {8, 9, 3, 6, 2, 0, 7}, {9, 10, 5, 10, 4, 1, 11},
            {5, 15, 4, 8, 3, 2, 9}, {6, 14, 4, 8, 3, 1, 9}, {0, 19, 3, 6, 2, 2, 7}, {9, 0, 3, 6, 2, 0, 7}};
        for (int[] row : table) {
            for (int k = 0; k < 5; k++) {
                QuarrelWalls x = beside(kinds.charAt(k), row[0], row[1]);
                due.due(kinds.charAt(k) + " by noise " + row[0] + ", courses " + row[1], x.of(0, 4), row[2 + k]);
                due.due("the plain one", x.of(1, 3), row[1] / 5);
                due.due("the week", x.wall(0, 2), 100 + row[2 + k] + row[1] / 5);
            }
        }
    }

    private static void whomItSees() {
        QuarrelWalls x = Due.of("2;p099,p000,p000,p099,p000,p0");
        due.due("all of 2", x.of(2, 5), 59);
        x.rule(1, 0);
        x.weeks(2);
        int[] sets = {0, 12, 10, 6, 32, 16};
        for (int g = 0; g < 6; g++) {
            due.due("seen from " + g, x.of(g, 5), sets[g]);
        }
        for (int c = 19; c > 5; c--) {
            x.lovers(0);
        }
        due.due("5 courses hide", x.of(1, 5), 12);
        due.due("from either side", x.of(0, 5), 0);
        x.lovers(0);
        due.due("4 do not", x.of(1, 5), 13);
        due.due("from the other side", x.of(0, 5), 14);
        due.due("one alone sees none", Due.of("2;p0").of(0, 5), 0);
    }

    private static void ofAGarden() {
        QuarrelWalls x = Due.of("6;p730,s460,m9");
        int[][] answers = {{0, 7, 0, 0, 1, 6}, {1, 4, 0, 4, 6, 5}, {2, 9, 0, 0, 0, 3}};
        for (int g = 0; g < 3; g++) {
            for (int what = 0; what < 6; what++) {
                due.due("of(" + g + ", " + what + ")", x.of(g, what), answers[g][what]);
            }
        }
        for (int wrong : WRONG) {
            due.due("of(" + wrong + ", 0)", x.of(wrong, 0), -1);
            due.due("of(0, " + wrong + ")", x.of(0, wrong), -1);
        }
        due.due("of(3, 0)", x.of(3, 0), -1);
        due.due("of(0, 6)", x.of(0, 6), -1);
    }

    private static void ofAWall() {
        QuarrelWalls x = Due.of("6;p730,s460,m9");
        due.due("courses", x.wall(1, 0), 0);
        due.due("quarrel", x.wall(1, 1), 60);
        due.due("more in a week", x.wall(1, 2), 105);
        due.due("apology", x.wall(1, 3), 0);
        x.sorry(1);
        for (int left = 3; left >= 0; left--) {
            due.due("apology in " + left, x.wall(1, 3), left);
            due.due("over the other", x.wall(0, 3), 0);
            x.weeks(1);
        }
        due.due("none waits below 0", x.wall(1, 3), 0);
        for (int wrong : WRONG) {
            due.due("wall(" + wrong + ", 0)", x.wall(wrong, 0), -1);
            due.due("wall(0, " + wrong + ")", x.wall(0, wrong), -1);
        }
        due.due("wall(2, 0)", x.wall(2, 0), -1);
        due.due("wall(0, 4)", x.wall(0, 4), -1);
        QuarrelWalls y = Due.of("6;p000,p0");
        y.rule(1, 9);
        due.due("less than nothing is told all the same", y.wall(0, 2), 91);
        QuarrelWalls z = Due.of("6;a999,a9");
        due.due("and more than most", z.wall(0, 2), 113);
    }

    private static void noise() {
        QuarrelWalls x = Due.of("6;p730,s4");
        due.due("noise(1, 9)", x.noise(1, 9), 4);
        due.due("noise(1, 0)", x.noise(1, 0), 9);
        due.due("of(1, 1)", x.of(1, 1), 0);
        due.due("of(0, 1)", x.of(0, 1), 7);
        due.due("galls no more", x.of(0, 4), 0);
        due.due("noise(1, 10)", x.noise(1, 10), -1);
        due.due("noise(2, 1)", x.noise(2, 1), -1);
        for (int wrong : WRONG) {
            due.due("noise(" + wrong + ", 1)", x.noise(wrong, 1), -1);
            due.due("noise(0, " + wrong + ")", x.noise(0, wrong), -1);
        }
        due.due("nothing changed", x.of(0, 1) * 10 + x.of(1, 1), 70);
    }

    private static void rule() {
        QuarrelWalls x = new QuarrelWalls();
        due.due("rule(0, 2)", x.rule(0, 2), 12);
        due.due("rule(0, 52)", x.rule(0, 52), 2);
        due.due("rule(0, 1)", x.rule(0, 1), -1);
        due.due("rule(0, 53)", x.rule(0, 53), -1);
        due.due("rule(1, 9)", x.rule(1, 9), 1);
        due.due("rule(1, 0)", x.rule(1, 0), 9);
        due.due("rule(1, 10)", x.rule(1, 10), -1);
        due.due("rule(2, 5)", x.rule(2, 5), -1);
        for (int wrong : WRONG) {
            due.due("rule(" + wrong + ", 5)", x.rule(wrong, 5), -1);
            due.due("rule(0, " + wrong + ")", x.rule(0, wrong), -1);
            due.due("rule(1, " + wrong + ")", x.rule(1, wrong), -1);
        }
        due.due("year", x.count(2), 52);
        due.due("ease", x.count(3), 0);
        x.weeks(7);
        x.rule(0, 5);
        due.due("weeks to the next multiple of the new year", x.count(7), 3);
    }

    private static void count() {
        QuarrelWalls x = Due.of("6;p730,s460,m915,d245,a088,p3");
        x.weeks(6);
        int[] counts = {6, 6, 6, 1, 57, 297, 228, 6, 31, 6};
        for (int what = 0; what < 10; what++) {
            due.due("count(" + what + ")", x.count(what), counts[what]);
        }
        x.sorry(1);
        x.sorry(3);
        due.due("two are closed", x.count(8), 21);
        x.weeks(5);
        due.due("one week to go", x.count(7), 1);
        due.due("open again", x.count(8), 31);
        due.due("8 may be undone", x.count(9), 8);
        due.due("count(10)", x.count(10), -1);
        for (int wrong : WRONG) {
            due.due("count(" + wrong + ")", x.count(wrong), -1);
        }
    }
}
