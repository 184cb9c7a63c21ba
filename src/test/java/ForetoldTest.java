/** Promises 19 to 26: ahead, settles, leastGift, sorries, stir, holds, image, restore. */
public final class ForetoldTest {
    private static final Due due = new Due();
    private static final int[] WRONG = {-1, Integer.MIN_VALUE, Integer.MAX_VALUE};
    private static final String STREET = "6;p730,s460,m915,d245,a088,p3";

    public static void main(String[] args) {
        ahead();
        aheadIsWhatComes();
        settles();
        leastGift();
        sorries();
        sorriesOfLikeOnes();
        stir();
        holds();
        images();
        nothingIsChanged();
        due.end();
    }

    private static void ahead() {
        QuarrelWalls x = Due.of(STREET);
        int[][] rows = {{0, 0, 238, 0, 30}, {5, 0, 288, 0, 50}, {6, 57, 297, 10, 54}, {12, 68, 357, 19, 99}, {104, 76, 396, 19, 99}};
        for (int[] row : rows) {
            due.due("all courses behind " + row[0], x.ahead(-4, row[0], 0), row[1]);
            due.due("all quarrels behind " + row[0], x.ahead(-4, row[0], 1), row[2]);
            due.due("courses behind " + row[0], x.ahead(0, row[0], 0), row[3]);
            due.due("quarrel behind " + row[0], x.ahead(0, row[0], 1), row[4]);
        }
        due.due("ahead(5, 1, 0)", x.ahead(5, 1, 0), -1);
        due.due("ahead(-3, 1, 0)", x.ahead(-3, 1, 0), -1);
        due.due("ahead(-5, 1, 0)", x.ahead(-5, 1, 0), -1);
        due.due("ahead(0, 105, 0)", x.ahead(0, 105, 0), -1);
        due.due("ahead(-4, 105, 0)", x.ahead(-4, 105, 0), -1);
        due.due("ahead(0, 1, 2)", x.ahead(0, 1, 2), -1);
        due.due("ahead(-4, 1, 2)", x.ahead(-4, 1, 2), -1);
        for (int wrong : WRONG) {
            due.due("ahead(" + wrong + ", 1, 0)", x.ahead(wrong, 1, 0), -1);
            due.due("ahead(0, " + wrong + ", 0)", x.ahead(0, wrong, 0), -1);
            due.due("ahead(0, 1, " + wrong + ")", x.ahead(0, 1, wrong), -1);
        }
        QuarrelWalls none = new QuarrelWalls();
        due.due("no walls", none.ahead(-4, 104, 1), 0);
        due.due("no such wall", none.ahead(0, 1, 1), -1);
    }

    private static QuarrelWalls changed(int year) {
        QuarrelWalls x = Due.of(year + ";p730,s460,m915,d245,a088,p3");
        x.weeks(3);
        x.falls(0);
        x.rule(1, year % 10);
        return x;
    }

    private static void aheadIsWhatComes() {
        for (int year = 2; year <= 52; year += 5) {
            QuarrelWalls told = changed(year);
            QuarrelWalls lived = changed(year);
            for (int n = 0; n <= 104; n++) {
                due.due("courses in " + n + ", year " + year, lived.count(4), told.ahead(-4, n, 0));
                due.due("quarrel in " + n + ", year " + year, lived.wall(3, 1), told.ahead(3, n, 1));
                lived.weeks(1);
            }
        }
    }

    private static int settles(String text, int ease) {
        QuarrelWalls x = Due.of(text);
        x.rule(1, ease);
        return x.settles();
    }

    private static void settles() {
        due.due("nobody", new QuarrelWalls().settles(), 0);
        due.due("one alone", settles("2;p9", 1), 0);
        due.due("nothing comes", settles("2;p000,p0", 0), 0);
        due.due("4 and less are no course", settles("2;p004,p0", 0), 0);
        due.due("one course is one change", settles("2;p005,p0", 0), 1);
        due.due(STREET, settles(STREET, 1), 4);
        due.due("the most that is told", settles("2;a392,p261,p733,p100,m603,m4", 0), 20);
        QuarrelWalls x = Due.of("2;a928,d186,d922,s200,m508,s2");
        due.due("none", x.settles(), -4);
        int weeks = 0;
        while (x.settles() == -4 && weeks < 500) {
            x.weeks(2);
            weeks += 2;
        }
        due.due("the first that is told is the most", x.settles(), 20);
        x.weeks(1);
        due.due("the week bears nothing on it", x.settles(), 20);
        x.weeks(1);
        due.due("one less behind a Michaelmas", x.settles(), 19);
    }

    private static void leastGift() {
        QuarrelWalls x = Due.of(STREET);
        int[][] rows = {{0, 3, -4}, {0, 8, 100}, {0, 9, 25}, {0, 10, 0}, {0, 12, 0}, {1, 12, -4}, {2, 0, 25}, {2, 1, 0}, {3, 8, 1}, {4, 19, 0}};
        for (int[] row : rows) {
            due.due("leastGift(" + row[0] + ", " + row[1] + ")", x.leastGift(row[0], row[1]), row[2]);
        }
        QuarrelWalls y = Due.of("2;p020,p0");
        y.rule(1, 0);
        due.due("the greatest gift does it", y.leastGift(0, 0), 256);
        y.gossip(0, 4);
        due.due("400", y.leastGift(0, 0), 400);
        y.gossip(0, 1);
        due.due("none", y.leastGift(0, 0), -4);
        // a gift makes no quarrel less than 0: with 3 more each week a small one is as good as none
        QuarrelWalls z = Due.of("2;p900,p0");
        z.rule(1, 0);
        due.due("6 are one course whatever is given", z.leastGift(0, 0), -4);
        due.due("leastGift(5, 0)", x.leastGift(5, 0), -1);
        due.due("leastGift(0, 20)", x.leastGift(0, 20), -1);
        for (int wrong : WRONG) {
            due.due("leastGift(" + wrong + ", 0)", x.leastGift(wrong, 0), -1);
            due.due("leastGift(0, " + wrong + ")", x.leastGift(0, wrong), -1);
        }
    }

    private static void sorries() {
        QuarrelWalls x = Due.of(STREET);
        int[][] rows = {{0, 0, 57}, {1, 16, 52}, {2, 18, 48}, {3, 26, 45}, {4, 27, 43}, {5, 31, 42}};
        for (int[] row : rows) {
            due.due("sorries(" + row[0] + ", 0)", x.sorries(row[0], 0), row[1]);
            due.due("sorries(" + row[0] + ", 1)", x.sorries(row[0], 1), row[2]);
        }
        x.sorry(4);
        due.due("over 4 none may be made", x.sorries(1, 0), 2);
        due.due("over 4 it was made", x.sorries(0, 1), 52);
        due.due("sorries(6, 0)", x.sorries(6, 0), -1);
        due.due("sorries(1, 2)", x.sorries(1, 2), -1);
        for (int wrong : WRONG) {
            due.due("sorries(" + wrong + ", 0)", x.sorries(wrong, 0), -1);
            due.due("sorries(1, " + wrong + ")", x.sorries(1, wrong), -1);
        }
        due.due("nobody", new QuarrelWalls().sorries(5, 1), 0);
        due.due("nobody, bad", new QuarrelWalls().sorries(6, 1), -1);
    }

    private static void sorriesOfLikeOnes() {
        QuarrelWalls x = Due.of("2;p030,p030,p004,p030,p0");
        x.rule(1, 0);
        due.due("of like ones the least set", x.sorries(1, 0), 1);
        due.due("of two as well", x.sorries(2, 0), 3);
        due.due("of five the three that do something", x.sorries(5, 0), 11);
        due.due("courses", x.sorries(5, 1), 12);
        QuarrelWalls y = Due.of("2;p002,p003,p0");
        due.due("none does anything", y.sorries(5, 0), 0);
        due.due("no courses", y.sorries(5, 1), 0);
    }

    private static void stir() {
        QuarrelWalls x = Due.of(STREET);
        int[][] rows = {{1, 0, 58}, {4, 0, 58}, {9, 0, 59}};
        for (int[] row : rows) {
            due.due("stir(" + row[0] + ", 0)", x.stir(row[0], 0), row[1]);
            due.due("stir(" + row[0] + ", 1)", x.stir(row[0], 1), row[2]);
        }
        QuarrelWalls y = Due.of("2;p010,p013,p013,p0");
        y.rule(1, 0);
        due.due("the wall that is near its next course", y.stir(2, 0), 1);
        due.due("altogether", y.stir(2, 1), 7);
        due.due("of like ones the first", y.stir(1, 0), 0);
        due.due("nothing more", y.stir(1, 1), 6);
        QuarrelWalls z = Due.of("2;p098,p0");
        z.rule(1, 0);
        due.due("99 at most", z.stir(9, 1), 19);
        due.due("stir(0, 0)", x.stir(0, 0), -1);
        due.due("stir(10, 0)", x.stir(10, 0), -1);
        due.due("stir(1, 2)", x.stir(1, 2), -1);
        for (int wrong : WRONG) {
            due.due("stir(" + wrong + ", 0)", x.stir(wrong, 0), -1);
            due.due("stir(1, " + wrong + ")", x.stir(1, wrong), -1);
        }
        QuarrelWalls none = new QuarrelWalls();
        due.due("no walls", none.stir(1, 0), -4);
        due.due("no walls", none.stir(1, 1), -4);
        none.garden(0, 0);
        due.due("one garden, no walls", none.stir(9, 0), -4);
        // none is told of a GOSSIP of 1 .. 9 alone
        due.due("no walls, bad", none.stir(0, 0), -1);
    }

    private static void holds() {
        QuarrelWalls x = Due.of(STREET);
        due.due("no courses", x.holds(52), 1000000);
        x.weeks(6);
        int[][] rows = {{0, 1000000}, {1, 664200}, {20, 276}, {52, 0}};
        for (int[] row : rows) {
            due.due("holds(" + row[0] + ")", x.holds(row[0]), row[1]);
        }
        due.due("holds(53)", x.holds(53), -1);
        for (int wrong : WRONG) {
            due.due("holds(" + wrong + ")", x.holds(wrong), -1);
        }
        QuarrelWalls y = Due.of("2;p099,p0");
        y.weeks(2);
        for (int c = 19; c > 12; c--) {
            y.lovers(0);
        }
        due.due("12 courses", y.holds(1), 880000);
        // cut at the end alone it would be 408675
        due.due("cut each week", y.holds(7), 408674);
        y.lovers(0);
        due.due("11 courses", y.holds(52), 1000000);
        due.due("nobody", new QuarrelWalls().holds(52), 1000000);
    }

    private static void images() {
        QuarrelWalls x = Due.of("6;p730,s460,m915,d2");
        // more steps than are known: what is undone must come in its order whatever is done in between
        x.weeks(11);
        x.sorry(2);
        x.gift(0, 0, 9);
        x.seed(99);
        x.rule(1, 3);
        String was = Due.shown(x);
        due.due("image()", x.image(), 1);
        due.holds("nothing changed", was.equals(Due.shown(x)));
        x.sheet(0, 2, 5);
        x.type('7');
        x.drift(40);
        x.noise(3, 7);
        x.rule(0, 9);
        x.rule(1, 9);
        due.due("another street", Due.street(x, ";p310,p4"), 2);
        x.garden(4, 4);
        x.gossip(1, 4);
        x.type('5');
        due.due("restore()", x.restore(), 1);
        due.holds("all is as it was", was.equals(Due.shown(x)));
        due.due("but for the sheets", x.drop(0), 5);
        due.due("and the tape", x.type(';'), 2);
        due.due("street", Due.street(x, "p3"), 1);
        due.due("restore() once more", x.restore(), 1);
        due.holds("all is as it was once more", was.equals(Due.shown(x)));
        for (int left = 7; left >= 0; left--) {
            due.due("undo", x.undo(), left);
        }
        due.due("the draw as ahead of it", x.seed(1), 1);
        due.due("restore() a third time", x.restore(), 1);
        due.holds("and what is undone in between is known again", was.equals(Due.shown(x)));
        x.undo();
        x.undo();
        for (int week = 11; week > 5; week--) {
            due.due("week", x.count(1), week);
            x.undo();
        }
        due.due("the oldest that is known", x.count(1), 5);
        x.restore();
        x.weeks(1);
        String then = Due.shown(x);
        x.image();
        x.weeks(9);
        x.restore();
        due.holds("the latest image", then.equals(Due.shown(x)));
        QuarrelWalls empty = new QuarrelWalls();
        due.due("none", empty.restore(), -4);
        due.due("image of no gardens", empty.image(), 1);
        empty.garden(1, 1);
        empty.restore();
        due.due("no gardens", empty.count(0), 0);
    }

    private static void nothingIsChanged() {
        QuarrelWalls x = Due.of(STREET);
        x.weeks(7);
        x.sorry(1);
        x.sheet(1, 0, 24);
        String was = Due.shown(x);
        x.ahead(-4, 104, 0);
        x.ahead(2, 50, 1);
        x.settles();
        x.leastGift(1, 3);
        x.sorries(5, 0);
        x.stir(9, 1);
        x.holds(52);
        x.seen(1, 1, 0, 0, 6, 0);
        x.film(1, 24, 1, 0, 0);
        due.holds("foretelling changes nothing", was.equals(Due.shown(x)));
    }
}
