/** Boundaries that take many calls to come to, within the 512 for which an object is used. */
public final class LongRunsTest {
    private static final Due due = new Due();
    private static final int CALLS = 512;
    private static final int LAST_WEEK = 9999;

    public static void main(String[] args) {
        theLastWeekByEachNumberOfWeeks();
        theLastWeekOfADrift();
        whatIsForetoldBeyondTheLastWeek();
        undoneFromTheLastWeek();
        apologiesAtTheLastWeek();
        anImageOfTheLastWeek();
        aStreetBeginsAnew();
        paidByGifts();
        paidByWalls();
        stepsToTheLastCall();
        sheetsToTheLastCall();
        tapesToTheLastCall();
        drawsToTheLastCall();
        due.end();
    }

    /** An object at a WEEK, by as few calls as can be. */
    private static QuarrelWalls at(String text, int week) {
        QuarrelWalls x = Due.of(text);
        x.rule(1, 0);
        for (int left = week; left > 0; left -= 52) {
            x.weeks(Math.min(52, left));
        }
        due.due("WEEK", x.count(1), week);
        return x;
    }

    /** "FULL: the WEEK would be above 9999": n WEEKS to 9999 pass, to 10000 they do not. */
    private static void theLastWeekByEachNumberOfWeeks() {
        int[] many = {1, 2, 51, 52};
        for (int n : many) {
            QuarrelWalls x = at("7;p512,s3", LAST_WEEK - n + 1);
            String was = Due.shown(x);
            due.due(n + " to WEEK 10000", x.weeks(n), -3);
            due.due(n + " to WEEK 10000 in a DRIFT", x.drift(n), -3);
            due.due("no WEEKS are BAD first", x.weeks(0), -1);
            due.due("53 WEEKS are BAD first", x.weeks(53), -1);
            due.due("53 WEEKS of a DRIFT are BAD first", x.drift(53), -1);
            due.due("-1 WEEKS of a DRIFT are BAD first", x.drift(-1), -1);
            due.holds("nothing is changed", was.equals(Due.shown(x)));
            QuarrelWalls y = at("7;p512,s3", LAST_WEEK - n);
            due.holds(n + " to WEEK 9999", y.weeks(n) >= 0);
            due.due("WEEK 9999", y.count(1), LAST_WEEK);
            due.due("no WEEK more", y.weeks(1), -3);
            due.due("nor 52", y.weeks(52), -3);
        }
    }

    /** "FULL: likewise." */
    private static void theLastWeekOfADrift() {
        int[] many = {1, 2, 52};
        for (int n : many) {
            QuarrelWalls x = at("7;p512,s3", LAST_WEEK - n + 1);
            due.due(n + " to WEEK 10000 in a DRIFT", x.drift(n), -3);
            QuarrelWalls y = at("7;p512,s3", LAST_WEEK - n);
            due.holds(n + " to WEEK 9999 in a DRIFT", y.drift(n) >= 0);
            due.due("WEEK 9999", y.count(1), LAST_WEEK);
            due.due("no WEEK more of a DRIFT", y.drift(1), -3);
        }
        QuarrelWalls z = Due.of("2;s999,s9");
        int weeks = 0;
        while (z.drift(52) >= 0 && weeks < LAST_WEEK) {
            weeks += 52;
        }
        due.due("192 DRIFTS of 52 WEEKS", weeks, 9984);
        due.holds("one more of 15", z.drift(15) >= 0);
        due.due("WEEK 9999", z.count(1), LAST_WEEK);
    }

    /** What is FORETOLD has no last WEEK: "QUARREL, COURSES of a WALL behind n WEEKS (0 .. 104)". */
    private static void whatIsForetoldBeyondTheLastWeek() {
        QuarrelWalls last = at("12;p000,p0", LAST_WEEK);
        due.due("9999 by 12 leaves 3: 9 to go", last.count(7), 9);
        last.gossip(0, 9);
        due.due("behind 8", last.ahead(0, 8, 0), 0);
        due.due("behind 9, WEEK 10008", last.ahead(0, 9, 0), 1);
        due.due("QUARREL behind 104", last.ahead(0, 104, 1), 9);
        due.due("SETTLES", last.settles(), 1);
        due.due("LEAST GIFT", last.leastGift(0, 0), 25);
        due.due("APOLOGIES", last.sorries(1, 1), 1);
        due.due("GOSSIP", last.stir(1, 1), 2);
        last.sheet(0, 2, 24);
        due.due("film", last.film(0, 24, 0, 2, 0), 24);
        last.sheet(1, 0, 2);
        last.item(1, 0, 0, 1);
        last.item(1, 0, 1, 1);
        due.due("SEEN", last.seen(0, 1, 0, 0, 2, 0), 5);
        due.due("and still no WEEK more", last.weeks(1), -3);
        QuarrelWalls nine = at("9;p000,p0", LAST_WEEK);
        due.due("9999 is a MICHAELMAS of YEAR 9", nine.count(7), 9);
        nine.rule(0, 52);
        due.due("9999 by 52 leaves 15", nine.count(7), 37);
        nine.rule(0, 2);
        due.due("9999 by 2 leaves 1", nine.count(7), 1);
    }

    private static void undoneFromTheLastWeek() {
        QuarrelWalls x = at("7;p512,s3", LAST_WEEK);
        for (int left = 7; left >= 0; left--) {
            due.due("undo()", x.undo(), left);
            due.due("WEEK", x.count(1), LAST_WEEK - 8 + left);
        }
        due.due("older ones are lost", x.undo(), -4);
        due.due("9 to WEEK 10000", x.weeks(9), -3);
        due.holds("8 to WEEK 9999", x.weeks(8) >= 0);
        due.due("WEEK 9999", x.count(1), LAST_WEEK);
    }

    /** What takes no WEEK goes on in the last one; an APOLOGY's 3 WEEKS reach beyond it. */
    private static void apologiesAtTheLastWeek() {
        QuarrelWalls x = at("52;p099,p0", LAST_WEEK - 1);
        x.gift(0, 0, 1);
        int quarrel = x.wall(0, 1);
        due.due("an APOLOGY", x.sorry(0), quarrel - quarrel / 3);
        x.weeks(1);
        due.due("2 WEEKS more", x.wall(0, 3), 2);
        due.due("too soon", x.sorry(0), -2);
        due.due("WEEK 10000", x.weeks(1), -3);
        due.due("still 2", x.wall(0, 3), 2);
        due.holds("GOSSIP goes on", x.gossip(0, 1) > 0);
        due.holds("LOVERS go on", x.lovers(0) >= 0);
        due.holds("a WALL may fall", x.falls(0) > 0);
    }

    private static void anImageOfTheLastWeek() {
        QuarrelWalls x = at("7;p512,s3", LAST_WEEK);
        x.image();
        due.due("a STREET", Due.street(x, "2;p0"), 1);
        due.holds("52 WEEKS", x.weeks(52) == 0);
        x.restore();
        due.due("WEEK 9999", x.count(1), LAST_WEEK);
        due.due("FULL", x.weeks(1), -3);
        due.due("8 may be UNDONE", x.undo(), 7);
        due.holds("one WEEK", x.weeks(1) >= 0);
    }

    /** "WEEK 0": a STREET makes room again. */
    private static void aStreetBeginsAnew() {
        QuarrelWalls x = at("7;p512,s3", LAST_WEEK);
        due.due("a FAULT leaves the WEEK", Due.street(x, "7;"), -22);
        due.due("FULL", x.weeks(1), -3);
        due.due("a GARDEN leaves the WEEK", x.garden(0, 0), 2);
        due.due("FULL", x.drift(1), -3);
        due.due("a STREET", Due.street(x, "7;p512,s3"), 2);
        due.due("WEEK 0", x.count(1), 0);
        due.holds("52 WEEKS", x.weeks(52) >= 0);
    }

    /** GIFTS of 400 up to the last call: what is PAID has no bound of its own. */
    private static void paidByGifts() {
        QuarrelWalls x = new QuarrelWalls();
        x.garden(0, 0);
        x.garden(0, 0);
        int calls = 2;
        int paid = 0;
        while (calls < CALLS - 3) {
            x.gift(0, 1, 400);
            paid += 400;
            calls++;
        }
        due.due("by all", x.count(6), paid);
        due.due("by the one", x.of(1, 2), 400 * 507);
        due.due("by the other", x.of(0, 2), 0);
    }

    /** A WALL that FALLS and is built each YEAR of 2 WEEKS. */
    private static void paidByWalls() {
        QuarrelWalls x = new QuarrelWalls();
        x.garden(4, 9);
        x.garden(4, 9);
        x.rule(0, 2);
        x.weeks(52);
        int paid = x.of(0, 2);
        for (int k = 0; k < 200; k++) {
            due.due("FALLS", x.falls(0), 19);
            due.due("is built", x.weeks(2), 19);
        }
        due.due("PAID by the one ahead", x.of(0, 2), paid + 200 * 38);
        due.due("PAID by the one behind", x.of(1, 2), paid + 200 * 38);
    }

    /** 500 steps: 8 are known, and they are the latest. */
    private static void stepsToTheLastCall() {
        QuarrelWalls x = new QuarrelWalls();
        x.garden(0, 0);
        x.garden(0, 0);
        for (int k = 0; k < 497; k++) {
            due.due("a step", x.gossip(0, 1), Math.min(99, k + 1));
        }
        due.due("8 are known", x.count(9), 8);
        for (int left = 7; left >= 0; left--) {
            due.due("undo()", x.undo(), left);
        }
        due.due("none is known", x.undo(), -4);
        due.due("nothing of the QUARREL", x.wall(0, 1), 99);

        // back and forth: a ring that is filled and emptied again and again
        QuarrelWalls y = new QuarrelWalls();
        y.garden(0, 0);
        y.garden(0, 0);
        y.rule(1, 0);
        int week = 0;
        int known = 0;
        for (int k = 0; k < 160; k++) {
            int n = 1 + k * 7 % 11;
            y.weeks(n);
            week += n;
            known = Math.min(8, known + n);
            int back = 1 + k * 5 % 3;
            for (int b = 0; b < back; b++) {
                boolean any = known > 0;
                known -= any ? 1 : 0;
                week -= any ? 1 : 0;
                due.due("undo()", y.undo(), any ? known : -4);
            }
        }
        due.due("the WEEK", y.count(1), week);
    }

    private static void sheetsToTheLastCall() {
        QuarrelWalls x = new QuarrelWalls();
        for (int k = 0; k < 255; k++) {
            due.due("a new row", x.sheet(k % 4, k / 4 % 4, k % 25), k % 25);
            due.due("is dropped", x.drop(k % 4), k % 25);
        }
        due.due("the 511th call", x.drop(0), -11);
        due.due("the 512th call", x.sheet(0, 0, 24), 24);
    }

    private static void tapesToTheLastCall() {
        QuarrelWalls x = new QuarrelWalls();
        String text = "6;p730,s460,m915,d245,a088,p3" + " ".repeat(31);
        for (int k = 0; k < 8; k++) {
            for (int i = 0; i < 60; i++) {
                due.due("a letter", x.type(text.charAt(i)), i + 1);
            }
            due.due("FULL", x.type('x'), -3);
            due.due("a STREET", x.street(), 6);
        }
    }

    /** THE DRAW of 400 WEEKS one by one, held against the rule. */
    private static void drawsToTheLastCall() {
        QuarrelWalls x = Due.of("2;a999,a999,a999,a999,a999,a9");
        long draw = 1;
        int[] courses = new int[5];
        int fell = 0;
        for (int week = 1; week <= 400; week++) {
            int due19 = 0;
            for (int w = 0; w < 5; w++) {
                courses[w] = week % 2 == 0 ? 19 : courses[w];
                if (courses[w] >= 12) {
                    draw = draw * 1103515245L + 12345L & 0x7fffffffL;
                    if (draw / 65536 % 100 < courses[w]) {
                        courses[w] = 0;
                        due19++;
                    }
                }
            }
            due.due("WEEK " + week, x.drift(1), due19);
            fell += due19;
        }
        due.due("THE DRAW", x.seed(0), draw);
        due.holds("many fell: " + fell, fell > 100);
    }
}
