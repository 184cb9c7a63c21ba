/** Promises 10 to 18, and what they do by the Terms: each sentence that names a boundary has a test of its own. */
public final class BoundsDoneTest {
    private static final Due due = new Due();
    private static final Edge RICH = new Edge(due, Whole::rich);
    private static final Edge NEW = new Edge(due, QuarrelWalls::new);
    private static final Edge ALONE = new Edge(due, () -> Due.of("7;a9"));
    private static final Edge FIVE_WALLS = new Edge(due, () -> high("19", "19", "19", "19", "19"));

    public static void main(String[] args) {
        weeksAreAsTold();
        theQuarrelIsHeld();
        aWeekGoesByCoursesAsTheyAre();
        michaelmasIsAMultipleOfYear();
        aFifthInCourses();
        whoPays();
        sorryIsAsTold();
        aThirdIsCut();
        notWithinThreeWeeks();
        giftIsAsTold();
        theGreatestSquare();
        noughtAtLeast();
        gossipIsAsTold();
        ninetyNineAtMost();
        loversAreAsTold();
        fallsIsAsTold();
        aFallIsFiveMore();
        driftIsAsTold();
        twelveCoursesOrMore();
        lessThanCourses();
        lowestThirtyOneBits();
        wallsAreDrawnForRising();
        behindTheWeek();
        undoneOneByOne();
        eightAreKnown();
        eachIsOne();
        whateverWasTold();
        noneIsKnown();
        seedIsAsTold();
        due.end();
    }

    /** Walls of so many COURSES on a still street (nothing GALLS but COURSES, EASE 0, no MICHAELMAS for long). */
    private static QuarrelWalls high(String... courses) {
        StringBuilder text = new StringBuilder("2;");
        for (String c : courses) {
            int quarrel = 5 * Integer.parseInt(c);
            text.append("p0").append(quarrel / 10).append(quarrel % 10).append(',');
        }
        QuarrelWalls x = Due.of(text.append("p0").toString());
        x.rule(1, 0);
        x.weeks(2);
        x.rule(0, 52);
        return x;
    }

    private static QuarrelWalls quarrel(int quarrel) {
        QuarrelWalls x = Due.of("52;p0" + quarrel / 10 + quarrel % 10 + ",p0");
        x.rule(1, 0);
        return x;
    }

    /** "n WEEKS (1 .. 52): COURSES of all WALLS. BAD". */
    private static void weeksAreAsTold() {
        RICH.within("weeks", (x, v) -> x.weeks(v), 1, 52, 4, 38);
        NEW.within("weeks of a new one", (x, v) -> x.weeks(v), 1, 52, 0, 0);
        ALONE.within("weeks of one alone", (x, v) -> x.weeks(v), 1, 52, 0, 0);
        int[] many = {1, 2, 51, 52};
        for (int n : many) {
            QuarrelWalls x = new QuarrelWalls();
            x.weeks(n);
            due.due("WEEK", x.count(1), n);
            due.due("each may be UNDONE", x.count(9), Math.min(8, n));
        }
    }

    /** "less by EASE (0 .. 99 then)". */
    private static void theQuarrelIsHeld() {
        // a MASON and a SULKER with NOISE 9: 7 and 6 more, EASE 0 .. 9
        int[][] up = {{0, 13}, {85, 98}, {86, 99}, {87, 99}, {98, 99}, {99, 99}};
        for (int[] row : up) {
            QuarrelWalls x = Due.of("52;a9" + row[0] / 10 + row[0] % 10 + ",s9");
            x.rule(1, 0);
            x.weeks(1);
            due.due("13 more than " + row[0], x.wall(0, 1), row[1]);
        }
        int[][] down = {{0, 0}, {1, 0}, {8, 0}, {9, 0}, {10, 1}, {99, 90}};
        for (int[] row : down) {
            QuarrelWalls x = quarrel(row[0]);
            x.rule(1, 9);
            x.weeks(1);
            due.due("9 less than " + row[0], x.wall(0, 1), row[1]);
        }
        // it is held behind both, not between: 97 and 3 more and 3 less is 97
        QuarrelWalls x = Due.of("52;p097,p9");
        x.rule(1, 3);
        x.weeks(1);
        due.due("3 more, 3 less", x.wall(0, 1), 97);
        QuarrelWalls y = Due.of("52;p901,p0");
        y.rule(1, 2);
        y.weeks(1);
        due.due("3 more, 2 less", y.wall(0, 1), 2);
        y.rule(1, 9);
        y.weeks(1);
        due.due("6 less than 2", y.wall(0, 1), 0);
        y.rule(1, 3);
        y.weeks(1);
        due.due("3 more, 3 less than 0", y.wall(0, 1), 0);
    }

    /** "each QUARREL, by COURSES as they are": those of the MICHAELMAS count from the next WEEK on. */
    private static void aWeekGoesByCoursesAsTheyAre() {
        QuarrelWalls x = Due.of("2;p050,p0");
        x.rule(1, 0);
        due.due("MICHAELMAS", x.weeks(2), 10);
        due.due("QUARREL as by no COURSES", x.wall(0, 1), 50);
        x.weeks(1);
        due.due("QUARREL as by 10", x.wall(0, 1), 54);
    }

    /** "It is the next WEEK; if the number of it is a multiple of YEAR, it is MICHAELMAS". */
    private static void michaelmasIsAMultipleOfYear() {
        int[] years = {2, 3, 51, 52};
        for (int year : years) {
            QuarrelWalls x = Due.of(year + ";p050,p0");
            x.rule(1, 0);
            for (int week = 1; week <= year; week++) {
                due.due("YEAR " + year + ", WEEK " + week, x.weeks(1), week < year ? 0 : 10);
            }
        }
        QuarrelWalls x = Due.of("52;p050,p0");
        x.rule(1, 0);
        x.weeks(6);
        x.rule(0, 6);
        due.due("a YEAR that makes this WEEK a multiple comes late", x.wall(0, 0), 0);
        due.due("WEEK 11", x.weeks(5), 0);
        due.due("WEEK 12", x.weeks(1), 10);
        QuarrelWalls y = Due.of("7;p050,p0");
        y.rule(1, 0);
        y.weeks(5);
        y.rule(0, 3);
        due.due("WEEK 6 of YEAR 3", y.weeks(1), 10);
    }

    /** "each WALL becomes a fifth of its QUARREL in COURSES", COURSES 0 .. 19. */
    private static void aFifthInCourses() {
        for (int q = 0; q <= 99; q++) {
            QuarrelWalls x = quarrel(q);
            x.rule(0, 2);
            due.due("QUARREL " + q, x.weeks(2), q / 5);
        }
    }

    /** "for each COURSE more either neighbour has PAID 2 more, for each COURSE less 1 more". */
    private static void whoPays() {
        int[][] rows = {{0, 0, 0}, {1, 0, 2}, {19, 0, 38}, {10, 10, 0}, {10, 9, 2}, {9, 10, 1}, {0, 19, 19}, {18, 19, 1}, {19, 18, 2}};
        for (int[] row : rows) {
            QuarrelWalls x = Due.of("2;p0" + row[1] * 5 / 10 + row[1] * 5 % 10 + ",p0");
            x.rule(1, 0);
            x.weeks(2);
            int paid = x.of(0, 2);
            // the QUARREL that there must be, by gifts and gossip at once; a MICHAELMAS with nothing that GALLS
            int due5 = 5 * row[0];
            int wasGifts = x.of(1, 2);
            x.rule(1, x.wall(0, 2) - 100 > 9 ? 9 : x.wall(0, 2) - 100);
            while (x.wall(0, 1) > due5) {
                x.gift(0, 1, 1);
            }
            while (x.wall(0, 1) < due5) {
                x.gossip(0, 1);
            }
            int gifts = x.of(1, 2) - wasGifts;
            due.due(row[1] + " COURSES, then", x.weeks(2), row[0]);
            due.due(row[1] + " to " + row[0] + ": the one ahead PAID", x.of(0, 2) - paid, row[2]);
            due.due(row[1] + " to " + row[0] + ": the one behind PAID", x.of(1, 2) - wasGifts - gifts, row[2]);
        }
        QuarrelWalls x = Due.of("2;p005,p010,p0");
        x.rule(1, 0);
        x.weeks(1);
        due.due("nobody PAID ahead of MICHAELMAS", x.count(6), 0);
        x.weeks(1);
        int[] paid = {2, 6, 4};
        for (int g = 0; g < 3; g++) {
            due.due("PAID by " + g, x.of(g, 2), paid[g]);
        }
    }

    private static void sorryIsAsTold() {
        RICH.outside("sorry's WALL", (x, v) -> x.sorry(v), 0, 1, -1);
        RICH.answers("sorry's last WALL", (x, v) -> x.sorry(v), 1, 66);
        RICH.refuses("too soon", (x, v) -> x.sorry(v), 0, -2);
        FIVE_WALLS.within("sorry's WALL of five", (x, v) -> x.sorry(v), 0, 4, 64, 64);
        NEW.refuses("sorry without GARDENS", (x, v) -> x.sorry(v), 0, -1);
        ALONE.refuses("sorry of one alone", (x, v) -> x.sorry(v), 0, -1);
        QuarrelWalls x = high("19", "19");
        x.sorry(0);
        due.due("the other QUARREL stays", x.wall(1, 1), 95);
        due.due("COURSES stay", x.count(4), 38);
    }

    /** "its QUARREL becomes a third less (a third of it cut)". */
    private static void aThirdIsCut() {
        for (int q = 0; q <= 99; q++) {
            int less = 0;
            while (3 * (less + 1) <= q) {
                less++;
            }
            QuarrelWalls x = quarrel(q);
            due.due("QUARREL " + q, x.sorry(0), q - less);
            due.due("it is so", x.wall(0, 1), q - less);
        }
        due.due("0", quarrel(0).sorry(0), 0);
        due.due("2", quarrel(2).sorry(0), 2);
        due.due("3", quarrel(3).sorry(0), 2);
        due.due("99", quarrel(99).sorry(0), 66);
    }

    /** "none within 3 WEEKS behind the last one over that WALL"; "NOT: it is too soon". */
    private static void notWithinThreeWeeks() {
        for (int at = 0; at < 4; at++) {
            QuarrelWalls x = high("10", "10");
            if (at > 0) {
                x.weeks(at);
            }
            x.sorry(0);
            due.due("at once", x.sorry(0), -2);
            x.weeks(1);
            due.due("1 WEEK behind", x.sorry(0), -2);
            due.due("over the other it may be", x.sorry(1) >= 0 ? 1 : 0, 1);
            x.drift(1);
            due.due("2 WEEKS behind", x.sorry(0), -2);
            due.due("1 behind the other", x.sorry(1), -2);
            x.weeks(1);
            due.due("3 WEEKS behind", x.sorry(0) >= 0 ? 1 : 0, 1);
            due.due("2 behind the other", x.sorry(1), -2);
            due.due("from the last one", x.sorry(0), -2);
            x.undo();
            due.due("UNDONE, it may be made", x.sorry(0) >= 0 ? 1 : 0, 1);
        }
    }

    /** "GIFT (n 1 .. 400) over a WALL by the GARDEN ahead of it (0), behind it (1): QUARREL then. BAD." */
    private static void giftIsAsTold() {
        RICH.within("gift's WALL", (x, v) -> x.gift(v, 0, 1), 0, 1, 14, 98);
        RICH.within("gift's by", (x, v) -> x.gift(0, v, 4), 0, 1, 13, 13);
        RICH.within("gift's n", (x, v) -> x.gift(1, 1, v), 1, 400, 98, 79);
        FIVE_WALLS.within("gift's WALL of five", (x, v) -> x.gift(v, 1, 400), 0, 4, 75, 75);
        NEW.refuses("gift without GARDENS", (x, v) -> x.gift(v, 0, 1), 0, -1);
        ALONE.refuses("gift of one alone", (x, v) -> x.gift(v, 0, 1), 0, -1);
        for (int w = 0; w < 5; w++) {
            for (int by = 0; by < 2; by++) {
                QuarrelWalls x = high("19", "19", "19", "19", "19");
                int[] paid = new int[6];
                for (int g = 0; g < 6; g++) {
                    paid[g] = x.of(g, 2);
                }
                x.gift(w, by, 400);
                for (int g = 0; g < 6; g++) {
                    due.due("over " + w + " by " + by + ": PAID by " + g, x.of(g, 2) - paid[g], g == w + by ? 400 : 0);
                }
                due.due("the QUARRELS", x.count(5), 455);
            }
        }
    }

    /** "QUARREL less by the greatest number whose square is not above n". */
    private static void theGreatestSquare() {
        for (int n = 1; n <= 400; n++) {
            int root = 20;
            while (root * root > n) {
                root--;
            }
            due.due("GIFT of " + n, quarrel(99).gift(0, 0, n), 99 - root);
        }
    }

    /** "(0 at least)". */
    private static void noughtAtLeast() {
        int[][] rows = {{0, 1, 0}, {1, 1, 0}, {1, 3, 0}, {1, 4, 0}, {20, 400, 0}, {21, 400, 1}, {19, 400, 0}, {19, 399, 0}, {20, 399, 1}};
        for (int[] row : rows) {
            QuarrelWalls x = quarrel(row[0]);
            due.due("QUARREL " + row[0] + ", GIFT " + row[1], x.gift(0, 1, row[1]), row[2]);
            due.due("it is PAID all the same", x.of(1, 2), row[1]);
            due.due("it is one that may be UNDONE", x.undo(), 0);
            due.due("UNDONE", x.of(1, 2), 0);
        }
    }

    private static void gossipIsAsTold() {
        RICH.within("gossip's WALL", (x, v) -> x.gossip(v, 1), 0, 1, 16, 99);
        RICH.within("gossip's n", (x, v) -> x.gossip(0, v), 1, 9, 16, 24);
        FIVE_WALLS.within("gossip's WALL of five", (x, v) -> x.gossip(v, 2), 0, 4, 97, 97);
        NEW.refuses("gossip without GARDENS", (x, v) -> x.gossip(v, 1), 0, -1);
        ALONE.refuses("gossip of one alone", (x, v) -> x.gossip(v, 1), 0, -1);
    }

    /** "QUARREL more by n (99 at most)". */
    private static void ninetyNineAtMost() {
        for (int n = 1; n <= 9; n++) {
            due.due("0 and " + n, quarrel(0).gossip(0, n), n);
            due.due("to 98", quarrel(98 - n).gossip(0, n), 98);
            due.due("to 99", quarrel(99 - n).gossip(0, n), 99);
            due.due("one beyond", quarrel(100 - n).gossip(0, n), 99);
            due.due("99 and " + n, quarrel(99).gossip(0, n), 99);
        }
        QuarrelWalls x = quarrel(99);
        x.gossip(0, 9);
        due.due("it is one that may be UNDONE", x.count(9), 1);
    }

    /** "LOVERS take a COURSE from a WALL that has one"; "NOT: it has none". */
    private static void loversAreAsTold() {
        RICH.outside("lovers' WALL", (x, v) -> x.lovers(v), 0, 1, -1);
        RICH.answers("lovers", (x, v) -> x.lovers(v), 0, 3);
        RICH.refuses("it has none", (x, v) -> x.lovers(v), 1, -2);
        FIVE_WALLS.within("lovers' WALL of five", (x, v) -> x.lovers(v), 0, 4, 18, 18);
        NEW.refuses("lovers without GARDENS", (x, v) -> x.lovers(v), 0, -1);
        ALONE.refuses("lovers of one alone", (x, v) -> x.lovers(v), 0, -1);
        QuarrelWalls x = high("19", "1");
        int paid = x.count(6);
        for (int left = 18; left >= 0; left--) {
            due.due("lovers", x.lovers(0), left);
        }
        due.due("none is left", x.lovers(0), -2);
        due.due("one", x.lovers(1), 0);
        due.due("none is left", x.lovers(1), -2);
        due.due("QUARRELS stay", x.count(5), 100);
        due.due("nobody PAID for it", x.count(6), paid);
    }

    /** "A WALL FALLS: COURSES it had. BAD; NOT: it has none." */
    private static void fallsIsAsTold() {
        RICH.outside("falls' WALL", (x, v) -> x.falls(v), 0, 1, -1);
        RICH.answers("falls", (x, v) -> x.falls(v), 0, 4);
        RICH.refuses("it has none", (x, v) -> x.falls(v), 1, -2);
        FIVE_WALLS.within("falls' WALL of five", (x, v) -> x.falls(v), 0, 4, 19, 19);
        NEW.refuses("falls without GARDENS", (x, v) -> x.falls(v), 0, -1);
        ALONE.refuses("falls of one alone", (x, v) -> x.falls(v), 0, -1);
        QuarrelWalls x = high("1", "19");
        due.due("a WALL of one COURSE", x.falls(0), 1);
        due.due("has none then", x.wall(0, 0), 0);
        due.due("the other stands", x.wall(1, 0), 19);
        due.due("and none to fall", x.falls(0), -2);
    }

    /** "its QUARREL is 5 more (99 at most)". */
    private static void aFallIsFiveMore() {
        int[][] rows = {{5, 10}, {93, 98}, {94, 99}, {95, 99}, {98, 99}, {99, 99}};
        for (int[] row : rows) {
            QuarrelWalls x = quarrel(row[0]);
            x.rule(0, 2);
            x.weeks(2);
            x.falls(0);
            due.due("QUARREL " + row[0], x.wall(0, 1), row[1]);
        }
        QuarrelWalls x = high("3");
        x.gift(0, 0, 225);
        due.due("QUARREL 0", x.wall(0, 1), 0);
        x.falls(0);
        due.due("then 5", x.wall(0, 1), 5);
    }

    /** "A DRIFT of n WEEKS (1 .. 52): how many WALLS FELL. BAD; FULL: likewise." */
    private static void driftIsAsTold() {
        RICH.within("drift", (x, v) -> x.drift(v), 1, 52, 0, drifted());
        NEW.within("drift of a new one", (x, v) -> x.drift(v), 1, 52, 0, 0);
        ALONE.within("drift of one alone", (x, v) -> x.drift(v), 1, 52, 0, 0);
        int[] many = {1, 2, 51, 52};
        for (int n : many) {
            QuarrelWalls x = new QuarrelWalls();
            x.drift(n);
            due.due("WEEK", x.count(1), n);
            due.due("each may be UNDONE", x.count(9), Math.min(8, n));
        }
    }

    /** How many FALL in 52 WEEKS of the rich street, by weeks(1) and falls alone. */
    private static int drifted() {
        QuarrelWalls x = Whole.rich();
        long draw = 4711;
        int fell = 0;
        for (int week = 0; week < 52; week++) {
            x.weeks(1);
            for (int w = 0; w < 2; w++) {
                int courses = x.wall(w, 0);
                if (courses >= 12) {
                    draw = (draw * 1103515245L + 12345L) % (1L << 31);
                    fell += draw / 65536 % 100 < courses && x.falls(w) > 0 ? 1 : 0;
                }
            }
        }
        return fell;
    }

    /** "for each WALL of 12 COURSES or more": no draw for 11. */
    private static void twelveCoursesOrMore() {
        for (int courses = 0; courses <= 19; courses++) {
            QuarrelWalls x = high(Integer.toString(courses));
            x.seed(1);
            due.due("nothing falls by 38: " + courses, x.drift(1), 0);
            due.due("THE DRAW by COURSES " + courses, x.seed(0), courses >= 12 ? 1103527590 : 1);
        }
        // a seed that draws 0, by which any WALL would fall that is drawn for
        int nought = seedOf(0);
        for (int courses = 1; courses <= 19; courses++) {
            QuarrelWalls x = high(Integer.toString(courses));
            x.seed(nought);
            due.due("by 0 falls a WALL of " + courses, x.drift(1), courses >= 12 ? 1 : 0);
        }
    }

    private static long next(long draw) {
        return draw * 1103515245L + 12345L & (1L << 31) - 1;
    }

    /** The least seed whose draw by 65536, left over by 100, is so. */
    private static int seedOf(int left) {
        for (int seed = 0; seed < 10_000_000; seed++) {
            if (next(seed) / 65536 % 100 == left) {
                return seed;
            }
        }
        throw new IllegalStateException();
    }

    /** "if it by 65536, left over by 100, is less than COURSES, the WALL FALLS". */
    private static void lessThanCourses() {
        for (int courses = 12; courses <= 19; courses++) {
            for (int left = courses - 1; left <= courses; left++) {
                QuarrelWalls x = high(Integer.toString(courses));
                int quarrel = x.wall(0, 1);
                x.seed(seedOf(left));
                due.due(left + " against COURSES " + courses, x.drift(1), left < courses ? 1 : 0);
                due.due("COURSES then", x.wall(0, 0), left < courses ? 0 : courses);
                // a WEEK by COURSES as they are, then 5 more for the fall
                int week = Math.min(99, quarrel + 2 * (courses / 5));
                due.due("QUARREL then", x.wall(0, 1), left < courses ? Math.min(99, week + 5) : week);
            }
            QuarrelWalls x = high(Integer.toString(courses));
            x.seed(seedOf(99));
            due.due("99 against COURSES " + courses, x.drift(1), 0);
        }
    }

    /** "THE DRAW is a number of 31 bits", "the lowest 31 bits". */
    private static void lowestThirtyOneBits() {
        int[] seeds = {0, 1, 2, 3, 65535, 65536, 0x3fffffff, 0x40000000, 0x7ffffffe, 0x7fffffff};
        boolean cutOff = false;
        for (int seed : seeds) {
            QuarrelWalls x = high("12");
            x.seed(seed);
            x.drift(1);
            due.due("behind " + seed, x.seed(0), next(seed));
            cutOff |= ((long) seed * 1103515245L + 12345L & 1L << 31) != 0;
        }
        due.holds("a bit above the 31 was cut off at least once", cutOff);
        QuarrelWalls x = high("19", "19", "19", "19", "19");
        for (int k = 0; k < 52; k++) {
            x.drift(1);
            int draw = x.seed(0);
            due.holds("31 bits: " + draw, draw >= 0);
            x.seed(draw);
        }
    }

    /** "for each WALL of 12 COURSES or more, rising": the first draw is for the lowest. */
    private static void wallsAreDrawnForRising() {
        // the draws from 1 on are 38 58 13 15 51 27 10
        QuarrelWalls x = high("19", "11", "12", "19", "0");
        due.due("38, 58, 13: of 19, 12 and 19 COURSES the last", x.drift(1), 1);
        due.due("the fourth WALL fell", x.wall(3, 0), 0);
        due.due("the others stand", x.count(4), 42);
        QuarrelWalls y = high("19", "19", "13", "19", "12");
        due.due("38 58 13 15 51: not 13 against 13", y.drift(1), 1);
        due.due("the fourth fell by 15", y.wall(3, 0), 0);
        due.due("27 10 ..: for four WALLS", y.count(4), 63);
        due.due("all five of 14 or more: 13 and 15", high("16", "16", "14", "16", "16").drift(1), 2);
    }

    /** "behind each WEEK of a DRIFT": a WALL that MICHAELMAS makes as high is drawn for at once. */
    private static void behindTheWeek() {
        QuarrelWalls x = quarrel(60);
        x.rule(0, 2);
        x.drift(1);
        due.due("no COURSES, no draw", x.seed(seedOf(11)), 1);
        due.due("12 COURSES at MICHAELMAS, drawn for in that WEEK", x.drift(1), 1);
        QuarrelWalls y = quarrel(59);
        y.rule(0, 2);
        y.seed(seedOf(0));
        due.due("11 COURSES are not", y.drift(2), 0);
        QuarrelWalls z = high("12");
        z.gift(0, 0, 400);
        // 40 and 2 times 4 are 48: 9 COURSES
        z.rule(0, 2);
        z.seed(seedOf(0));
        z.weeks(1);
        due.due("a WALL that MICHAELMAS makes lower is not drawn for", z.drift(1), 0);
        due.due("9 COURSES", z.wall(0, 0), 9);
    }

    /** "the latest WEEK (with what FELL behind it in a DRIFT) ... is as it had not been". */
    private static void undoneOneByOne() {
        due.holds("some fell", drifted(9, false).count(4) < 95);
        for (int back = 1; back <= 8; back++) {
            String was = butPast(Due.shown(drifted(9 - back, false)));
            for (int atOnce = 0; atOnce < 2; atOnce++) {
                QuarrelWalls x = drifted(9, atOnce == 1);
                for (int k = 1; k <= back; k++) {
                    due.due("undo()", x.undo(), 8 - k);
                }
                due.holds("as " + back + " WEEKS ago", was.equals(butPast(Due.shown(x))));
            }
        }
        QuarrelWalls x = drifted(9, true);
        for (int k = 0; k < 8; k++) {
            x.undo();
        }
        due.due("the first is lost", x.undo(), -4);
        due.due("and its WEEK stays", x.count(1), 3);
    }

    /** Five WALLS of 19 COURSES behind a DRIFT of so many WEEKS, in one call or in as many. */
    private static QuarrelWalls drifted(int weeks, boolean atOnce) {
        QuarrelWalls x = high("19", "19", "19", "19", "19");
        x.seed(1);
        if (atOnce) {
            x.drift(weeks);
        }
        for (int k = 0; k < weeks && !atOnce; k++) {
            x.drift(1);
        }
        return x;
    }

    private static String butPast(String shown) {
        return shown.replaceAll("count 9=\\d+", "");
    }

    /** "(8 are known, older ones lost)". */
    private static void eightAreKnown() {
        for (int steps = 0; steps <= 20; steps++) {
            QuarrelWalls x = quarrel(50);
            for (int k = 0; k < steps; k++) {
                x.gossip(0, 1);
            }
            int known = Math.min(8, steps);
            due.due(steps + " steps: known", x.count(9), known);
            for (int left = known - 1; left >= 0; left--) {
                due.due(steps + " steps: undo()", x.undo(), left);
                due.due("QUARREL", x.wall(0, 1), 50 + steps - known + left);
            }
            due.due(steps + " steps: no more", x.undo(), -4);
            due.due("it stays", x.wall(0, 1), 50 + steps - known);
            x.gossip(0, 9);
            due.due("a new one is known", x.count(9), 1);
            due.due("and UNDONE", x.undo(), 0);
            due.due("as it was", x.wall(0, 1), 50 + steps - known);
        }
    }

    /** "the latest WEEK .., APOLOGY, GIFT, GOSSIP, COURSE taken, WALL that FELL": each is one, and nothing else is. */
    private static void eachIsOne() {
        Edge.Call[] steps = {(x, v) -> x.weeks(1), (x, v) -> x.drift(1), (x, v) -> x.sorry(v), (x, v) -> x.gift(v, 0, 9),
            (x, v) -> x.gossip(v, 9), (x, v) -> x.lovers(v), (x, v) -> x.falls(v)};
        for (int k = 0; k < steps.length; k++) {
            QuarrelWalls x = Due.of("2;p550,s555,m5");
            x.rule(1, 0);
            x.weeks(2);
            x.seed(1);
            String was = Due.shown(x);
            due.holds("step " + k + " is done", steps[k].with(x, 1) >= 0);
            due.due("step " + k + " is one", x.count(9), 3);
            due.holds("step " + k + " changes something", !butPast(was).equals(butPast(Due.shown(x))));
            due.due("step " + k + " is UNDONE", x.undo(), 2);
            due.holds("step " + k + " is as it had not been", was.equals(Due.shown(x)));
        }
        QuarrelWalls x = Due.of("2;p550,s555,m5");
        x.weeks(2);
        x.noise(0, 1);
        x.rule(0, 9);
        x.rule(1, 9);
        x.seed(9);
        x.type('5');
        x.image();
        x.sheet(0, 0, 1);
        x.film(0, 1, 0, 0, 0);
        x.street();
        due.due("nothing else is one", x.count(9), 2);
    }

    /** "QUARRELS, COURSES, what all PAID, APOLOGIES, the WEEK, THE DRAW are as ahead of it, whatever was told since". */
    private static void whateverWasTold() {
        QuarrelWalls x = Due.of("2;p550,s555,m5");
        x.weeks(3);
        x.seed(55);
        String was = Due.shown(x);
        x.sorry(0);
        x.seed(77);
        x.noise(0, 9);
        x.rule(0, 52);
        x.rule(1, 9);
        due.due("undo()", x.undo(), 3);
        due.due("THE DRAW", x.seed(55), 55);
        due.due("NOISE stays as told", x.of(0, 1), 9);
        due.due("YEAR stays as told", x.count(2), 52);
        due.due("EASE stays as told", x.count(3), 9);
        x.noise(0, 5);
        x.rule(0, 2);
        x.rule(1, 1);
        due.holds("all else is as ahead of it", was.equals(Due.shown(x)));
    }

    /** "NONE: none is known." */
    private static void noneIsKnown() {
        NEW.refuses("undo() of a new one", (x, v) -> x.undo(), 0, -4);
        ALONE.refuses("undo() behind a STREET", (x, v) -> x.undo(), 0, -4);
        new Edge(due, () -> {
            QuarrelWalls x = Whole.rich();
            for (int k = 0; k < 8; k++) {
                x.undo();
            }
            return x;
        }).refuses("undo() behind eight", (x, v) -> x.undo(), 0, -4);
        RICH.answers("undo() of eight", (x, v) -> x.undo(), 0, 7);
    }

    /** "THE DRAW becomes v: what it was. BAD: below 0."; "a number of 31 bits (1 at first)". */
    private static void seedIsAsTold() {
        RICH.answers("seed", (x, v) -> x.seed(v), 0, 4711);
        RICH.answers("seed", (x, v) -> x.seed(v), Integer.MAX_VALUE, 4711);
        RICH.refuses("seed", (x, v) -> x.seed(v), -1, -1);
        RICH.refuses("seed", (x, v) -> x.seed(v), Integer.MIN_VALUE, -1);
        NEW.answers("1 at first", (x, v) -> x.seed(v), 0, 1);
        QuarrelWalls x = new QuarrelWalls();
        x.seed(0);
        due.due("it was 0", x.seed(Integer.MAX_VALUE), 0);
        due.due("it was the greatest", x.seed(1), Integer.MAX_VALUE);
        due.due("it is no step", x.count(9), 0);
    }
}
