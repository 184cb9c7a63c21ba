/** Promises 10 to 18: weeks, sorry, gift, gossip, lovers, falls, drift, undo, seed. */
public final class DoneTest {
    private static final Due due = new Due();
    private static final int[] WRONG = {-1, Integer.MIN_VALUE, Integer.MAX_VALUE};

    public static void main(String[] args) {
        weeks();
        whoPays();
        theLastWeek();
        sorry();
        gift();
        gossip();
        lovers();
        falls();
        drift();
        driftHeights();
        undo();
        undoWhateverWasTold();
        seed();
        due.end();
    }

    private static void weeks() {
        QuarrelWalls x = Due.of("6;p730,s460,m915,d245,a088,p3");
        due.due("weeks(5)", x.weeks(5), 0);
        int[] quarrels = {50, 85, 10, 45, 98};
        for (int w = 0; w < 5; w++) {
            due.due("quarrel " + w, x.wall(w, 1), quarrels[w]);
        }
        due.due("Michaelmas", x.weeks(1), 57);
        int[] courses = {10, 18, 1, 9, 19};
        for (int w = 0; w < 5; w++) {
            due.due("courses " + w, x.wall(w, 0), courses[w]);
        }
        due.due("the quarrel has a top", x.wall(4, 1), 99);
        due.due("weeks(52)", x.weeks(52) > 0 ? 1 : 0, 1);
        due.due("the week", x.count(1), 58);
        due.due("and a bottom", x.wall(2, 1), 0);
        due.due("weeks(0)", x.weeks(0), -1);
        due.due("weeks(53)", x.weeks(53), -1);
        for (int wrong : WRONG) {
            due.due("weeks(" + wrong + ")", x.weeks(wrong), -1);
        }
        due.due("the week stays", x.count(1), 58);
        due.due("weeks without gardens", new QuarrelWalls().weeks(52), 0);
    }

    private static void whoPays() {
        QuarrelWalls x = Due.of("2;p099,p004,p0");
        due.due("no Michaelmas", x.weeks(1), 0);
        due.due("nobody paid", x.count(6), 0);
        due.due("97 are 19 courses", x.weeks(1), 19);
        int[] paid = {38, 38, 0};
        for (int g = 0; g < 3; g++) {
            due.due("paid by " + g, x.of(g, 2), paid[g]);
        }
        x.gift(0, 1, 400);
        due.due("77 and 5 and 5 are 17 courses", x.weeks(2), 17);
        paid = new int[] {40, 440, 0};
        for (int g = 0; g < 3; g++) {
            due.due("then paid by " + g, x.of(g, 2), paid[g]);
        }
        due.due("all paid", x.count(6), 480);
    }

    private static void theLastWeek() {
        QuarrelWalls x = Due.of("7;p512,s3");
        for (int k = 0; k < 192; k++) {
            x.weeks(52);
        }
        due.due("week", x.count(1), 9984);
        String was = Due.shown(x);
        due.due("weeks(16)", x.weeks(16), -3);
        due.due("drift(16)", x.drift(16), -3);
        due.due("weeks(53) is bad first", x.weeks(53), -1);
        due.due("drift(0) is bad first", x.drift(0), -1);
        due.holds("nothing changed", was.equals(Due.shown(x)));
        due.due("weeks(15)", x.weeks(15) >= 0 ? 1 : 0, 1);
        due.due("the last week", x.count(1), 9999);
        due.due("weeks(1)", x.weeks(1), -3);
        due.due("drift(1)", x.drift(1), -3);
        due.due("undo()", x.undo(), 7);
        due.due("drift(1) to the last", x.drift(1) >= 0 ? 1 : 0, 1);
        due.due("foretold beyond it", x.ahead(0, 104, 1) >= 0 ? 1 : 0, 1);
    }

    private static void sorry() {
        QuarrelWalls x = Due.of("52;p010,p002,p099,p000,p0");
        x.rule(1, 0);
        int[] then = {7, 2, 66, 0};
        for (int w = 0; w < 4; w++) {
            due.due("sorry(" + w + ")", x.sorry(w), then[w]);
            due.due("again", x.sorry(w), -2);
        }
        due.due("4 to be undone", x.count(9), 4);
        x.weeks(2);
        due.due("too soon", x.sorry(0), -2);
        x.weeks(1);
        due.due("in time", x.sorry(0), 5);
        due.due("sorry(4)", x.sorry(4), -1);
        for (int wrong : WRONG) {
            due.due("sorry(" + wrong + ")", x.sorry(wrong), -1);
        }
        due.due("nobody paid", x.count(6), 0);
    }

    private static void gift() {
        QuarrelWalls x = Due.of("52;p099,p099,p0");
        due.due("gift of 400 by the one ahead", x.gift(0, 0, 400), 79);
        due.due("gift of 399", x.gift(0, 0, 399), 60);
        due.due("gift of 1 by the one behind", x.gift(0, 1, 1), 59);
        due.due("gift of 3", x.gift(0, 1, 3), 58);
        due.due("gift of 4", x.gift(0, 1, 4), 56);
        int[] paid = {799, 8, 0};
        for (int g = 0; g < 3; g++) {
            due.due("paid by " + g, x.of(g, 2), paid[g]);
        }
        due.due("the other quarrel", x.wall(1, 1), 99);
        x.gift(0, 0, 400);
        x.gift(0, 0, 400);
        due.due("0 at least", x.gift(0, 0, 400), 0);
        String was = Due.shown(x);
        due.due("gift of 0", x.gift(0, 0, 0), -1);
        due.due("gift of 401", x.gift(0, 0, 401), -1);
        due.due("by 2", x.gift(0, 2, 9), -1);
        due.due("over 2", x.gift(2, 0, 9), -1);
        for (int wrong : WRONG) {
            due.due("gift(" + wrong + ", 0, 9)", x.gift(wrong, 0, 9), -1);
            due.due("gift(0, " + wrong + ", 9)", x.gift(0, wrong, 9), -1);
            due.due("gift(0, 0, " + wrong + ")", x.gift(0, 0, wrong), -1);
        }
        due.holds("what is refused changes nothing", was.equals(Due.shown(x)));
        QuarrelWalls y = Due.of("52;p099,p0");
        for (int root = 1; root <= 20; root++) {
            y.gift(0, 0, root * root);
            due.due("root " + root, y.wall(0, 1), 99 - root);
            y.undo();
            if (root > 1) {
                due.due("below root " + root, y.gift(0, 0, root * root - 1), 99 - root + 1);
                y.undo();
            }
        }
    }

    private static void gossip() {
        QuarrelWalls x = Due.of("52;p085,p000,p0");
        due.due("gossip(0, 1)", x.gossip(0, 1), 86);
        due.due("gossip(0, 9)", x.gossip(0, 9), 95);
        due.due("99 at most", x.gossip(0, 9), 99);
        due.due("the other quarrel", x.wall(1, 1), 0);
        due.due("gossip(0, 0)", x.gossip(0, 0), -1);
        due.due("gossip(0, 10)", x.gossip(0, 10), -1);
        due.due("gossip(2, 1)", x.gossip(2, 1), -1);
        for (int wrong : WRONG) {
            due.due("gossip(" + wrong + ", 1)", x.gossip(wrong, 1), -1);
            due.due("gossip(0, " + wrong + ")", x.gossip(0, wrong), -1);
        }
        due.due("3 to be undone", x.count(9), 3);
    }

    private static void lovers() {
        QuarrelWalls x = Due.of("2;p017,p000,p0");
        x.weeks(2);
        due.due("3 courses", x.wall(0, 0), 3);
        due.due("lovers", x.lovers(0), 2);
        due.due("lovers", x.lovers(0), 1);
        due.due("lovers", x.lovers(0), 0);
        due.due("it has none", x.lovers(0), -2);
        due.due("nor has the other", x.lovers(1), -2);
        due.due("lovers(2)", x.lovers(2), -1);
        for (int wrong : WRONG) {
            due.due("lovers(" + wrong + ")", x.lovers(wrong), -1);
        }
        due.due("the quarrel stays", x.wall(0, 1), 15);
        due.due("nobody pays for lovers", x.count(6), 12);
        due.due("2 weeks and 3 courses to be undone", x.count(9), 5);
        due.due("undone", x.undo(), 4);
        due.due("a course is back", x.wall(0, 0), 1);
    }

    private static void falls() {
        QuarrelWalls x = Due.of("2;p017,p000,p099,p0");
        x.weeks(2);
        due.due("falls(0)", x.falls(0), 3);
        due.due("no courses", x.wall(0, 0), 0);
        due.due("5 more", x.wall(0, 1), 20);
        due.due("falls(2)", x.falls(2), 19);
        due.due("99 at most", x.wall(2, 1), 99);
        due.due("falls(0) again", x.falls(0), -2);
        due.due("falls(1)", x.falls(1), -2);
        x.gossip(1, 9);
        x.weeks(2);
        due.due("one course", x.falls(1), 1);
        for (int k = 0; k < 4; k++) {
            x.undo();
        }
        due.due("falls(3)", x.falls(3), -1);
        for (int wrong : WRONG) {
            due.due("falls(" + wrong + ")", x.falls(wrong), -1);
        }
        due.due("nobody pays for a fall", x.count(6), 88);
        due.due("undone", x.undo(), 3);
        due.due("it stands again", x.wall(2, 0), 19);
        due.due("the quarrel is back", x.wall(2, 1), 97);
    }

    /** The draws from 1 on, by 65536, left over by 100: 38 58 13 15 51 27 10. */
    private static void drift() {
        QuarrelWalls x = Due.of("2;p099,p0");
        x.weeks(2);
        x.rule(0, 52);
        due.due("38", x.drift(1), 0);
        due.due("the draw", x.seed(1103527590), 1103527590);
        due.due("58", x.drift(1), 0);
        due.due("13 is less than 19", x.drift(1), 1);
        due.due("no courses", x.wall(0, 0), 0);
        due.due("the week", x.count(1), 5);
        int draw = x.seed(0);
        x.seed(draw);
        due.due("nothing to fall", x.drift(20), 0);
        due.due("no draw", x.seed(draw), draw);
        due.due("undone weeks of a drift", x.count(9), 8);

        QuarrelWalls y = Due.of("2;p099,p0");
        y.weeks(2);
        y.rule(0, 52);
        due.due("three at once", y.drift(3), 1);
        due.due("undo the third, with what fell", y.undo(), 4);
        due.due("it stands", y.wall(0, 0), 19);
        due.due("the week", y.count(1), 4);
        due.due("the third again", y.drift(1), 1);
        due.due("the same draw", y.seed(9), draw);

        due.due("drift(0)", y.drift(0), -1);
        due.due("drift(53)", y.drift(53), -1);
        for (int wrong : WRONG) {
            due.due("drift(" + wrong + ")", y.drift(wrong), -1);
        }
        QuarrelWalls z = Due.of("2;p099,p099,p0");
        z.weeks(2);
        z.rule(0, 52);
        due.due("38 58, 13 15: both in the second week", z.drift(2), 2);
        due.due("behind MICHAELMAS of the very week", Due.of("2;p099,p099,p099,p0").drift(2), 1);
    }

    private static void driftHeights() {
        QuarrelWalls x = Due.of("2;p099,p0");
        x.weeks(2);
        x.rule(0, 52);
        for (int c = 19; c > 12; c--) {
            x.lovers(0);
        }
        due.due("12 courses are drawn for", x.drift(1), 0);
        due.due("so the draw is another", x.seed(1), 1103527590);
        x.lovers(0);
        x.drift(1);
        due.due("11 are not", x.seed(1), 1);

        for (int seed = 0; seed < 2_000_000_000; seed += 7_654_321) {
            QuarrelWalls y = Due.of("2;p099,p0");
            y.weeks(2);
            y.rule(0, 52);
            y.seed(seed);
            long draw = (seed * 1103515245L + 12345L) % 2147483648L;
            due.due("by seed " + seed, y.drift(1), draw / 65536 % 100 < 19 ? 1 : 0);
        }
        // the third draw from 1 on is 13: less than 14, not less than 13
        for (int c = 14; c >= 13; c--) {
            QuarrelWalls y = Due.of("2;p099,p0");
            y.weeks(2);
            y.rule(0, 52);
            for (int k = 19; k > c; k--) {
                y.lovers(0);
            }
            due.due("a wall of " + c, y.drift(3), c == 14 ? 1 : 0);
        }
    }

    private static void undo() {
        QuarrelWalls x = steps(9);
        for (int k = 8; k >= 1; k--) {
            due.due("undo " + k, x.undo(), k - 1);
            QuarrelWalls y = steps(9);
            for (int back = 9; back > k; back--) {
                y.undo();
            }
            due.holds("as ahead of " + k, sameButPast(Due.shown(steps(k)), Due.shown(y)));
        }
        due.due("older ones are lost", x.undo(), -4);
        due.holds("and it stays", sameButPast(Due.shown(steps(1)), Due.shown(x)));
    }

    private static QuarrelWalls steps(int n) {
        QuarrelWalls x = Due.of("2;p730,s460,m915,d245,a088,p3");
        x.weeks(8);
        for (int k = 0; k < n; k++) {
            switch (k) {
                case 0 -> x.sorry(1);
                case 1 -> x.gift(2, 1, 50);
                case 2 -> x.gossip(3, 4);
                case 3 -> x.lovers(0);
                case 4 -> x.falls(4);
                case 5 -> x.weeks(1);
                case 6 -> x.drift(1);
                case 7 -> x.sorry(0);
                default -> x.gift(0, 0, 1);
            }
        }
        return x;
    }

    private static boolean sameButPast(String a, String b) {
        return a.replaceAll("count 9=\\d+", "").equals(b.replaceAll("count 9=\\d+", ""));
    }

    private static void undoWhateverWasTold() {
        QuarrelWalls x = Due.of("3;p550,s5");
        x.seed(5);
        x.gossip(0, 2);
        x.seed(6);
        x.noise(0, 9);
        x.rule(0, 7);
        x.rule(1, 3);
        due.due("undo()", x.undo(), 0);
        due.due("the draw is as ahead of it", x.seed(6), 5);
        due.due("noise stays", x.of(0, 1), 9);
        due.due("year stays", x.count(2), 7);
        due.due("ease stays", x.count(3), 3);
        due.due("quarrel", x.wall(0, 1), 50);
        x.sorry(0);
        due.due("undo an apology", x.undo(), 0);
        due.due("it may be made again", x.sorry(0), 34);
        due.due("one is known", x.count(9), 1);
        due.due("what was refused is none", x.sorry(0), -2);
        due.due("one is known still", x.count(9), 1);
    }

    private static void seed() {
        QuarrelWalls x = new QuarrelWalls();
        due.due("seed(0)", x.seed(0), 1);
        due.due("seed(most)", x.seed(Integer.MAX_VALUE), 0);
        due.due("seed(-1)", x.seed(-1), -1);
        due.due("seed(least)", x.seed(Integer.MIN_VALUE), -1);
        due.due("seed(3)", x.seed(3), Integer.MAX_VALUE);
        due.due("nothing to be undone", x.undo(), -4);
        // the lowest 31 bits of 2147483647 times 1103515245 and 12345 more
        QuarrelWalls y = Due.of("2;p099,p0");
        y.weeks(2);
        y.rule(0, 52);
        y.seed(Integer.MAX_VALUE);
        y.drift(1);
        due.due("a draw that wraps", y.seed(1), (Integer.MAX_VALUE * 1103515245L + 12345L) % 2147483648L);
    }
}
