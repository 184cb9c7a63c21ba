/** Promises 1 to 6 and 9: each sentence that names a boundary has a test of its own. */
public final class BoundsGardensTest {
    private static final Due due = new Due();
    private static final Edge RICH = new Edge(due, Whole::rich);
    private static final Edge FULL_UP = new Edge(due, () -> {
        QuarrelWalls x = Due.of("2;p011,s022,m033,d044,a055,p6");
        x.gossip(0, 1);
        return x;
    });
    private static final Edge NEW = new Edge(due, QuarrelWalls::new);
    private static final Edge ALONE = new Edge(due, () -> Due.of("7;a9"));

    public static void main(String[] args) {
        aNewObject();
        gardenIsAsTold();
        sixGardensAndNoMore();
        aNewWallHasNothing();
        aNewGardenLeavesNothingToBeUndone();
        ofIsAsTold();
        noneAheadNoneBehind();
        noiseIsCutByThree();
        coursesAreCutByFive();
        mildIsNoughtAtLeast();
        seesTillFiveCourses();
        wallIsAsTold();
        theMostAndTheLeastOfAWeek();
        weeksToAnApology();
        noiseBecomes();
        ruleBecomes();
        countIsAsTold();
        countOfWeeksToMichaelmas();
        countOfOpenWalls();
        countOfWhatMayBeUndone();
        due.end();
    }

    /** "A street, no GARDENS."; the numbers that are told "at first". */
    private static void aNewObject() {
        QuarrelWalls x = new QuarrelWalls();
        due.due("GARDENS at first", x.count(0), 0);
        due.due("WEEK 0 at first", x.count(1), 0);
        due.due("YEAR 12 at first", x.count(2), 12);
        due.due("EASE 1 at first", x.count(3), 1);
        due.due("no COURSES", x.count(4), 0);
        due.due("no QUARRELS", x.count(5), 0);
        due.due("nobody PAID", x.count(6), 0);
        due.due("12 WEEKS to MICHAELMAS", x.count(7), 12);
        due.due("no WALLS to apologise over", x.count(8), 0);
        due.due("nothing to be UNDONE", x.count(9), 0);
        due.due("THE DRAW is 1 at first", x.seed(1), 1);
        due.due("no IMAGE", x.restore(), -4);
        due.due("THE TAPE is empty", x.type('5'), 1);
        for (int s = 0; s < 4; s++) {
            due.due("SHEET " + s + " holds nothing", x.drop(s), -11);
        }
        due.due("no GARDEN 0", x.of(0, 0), -1);
        due.due("no WALL 0", x.wall(0, 0), -1);
    }

    /** "of a KIND" (five of them), "with NOISE (0 .. 9)"; BAD. */
    private static void gardenIsAsTold() {
        RICH.within("garden's KIND", (x, v) -> x.garden(v, 0), 0, 4, 3, 3);
        RICH.within("garden's NOISE", (x, v) -> x.garden(0, v), 0, 9, 3, 3);
        NEW.within("first garden's KIND", (x, v) -> x.garden(v, 9), 0, 4, 0, 0);
        NEW.within("first garden's NOISE", (x, v) -> x.garden(4, v), 0, 9, 0, 0);
        for (int kind = 0; kind < 5; kind++) {
            for (int noise = 0; noise < 10; noise++) {
                QuarrelWalls x = new QuarrelWalls();
                x.garden(kind, noise);
                due.due("KIND " + kind, x.of(0, 0), kind);
                due.due("NOISE " + noise, x.of(0, 1), noise);
                due.due("PAID 0 at first", x.of(0, 2), 0);
            }
        }
    }

    /** "GARDENS 0 .. 5"; "BAD; FULL: 6." */
    private static void sixGardensAndNoMore() {
        QuarrelWalls x = new QuarrelWalls();
        for (int g = 0; g < 6; g++) {
            due.due("GARDEN " + g, x.garden(0, g), g);
            due.due("so many", x.count(0), g + 1);
        }
        due.due("the seventh", x.garden(0, 0), -3);
        due.due("six", x.count(0), 6);
        FULL_UP.refuses("a seventh of NOISE", (y, v) -> y.garden(0, v), 9, -3);
        FULL_UP.refuses("a seventh of KIND", (y, v) -> y.garden(v, 0), 4, -3);
        FULL_UP.refuses("BAD is named ahead of FULL, KIND", (y, v) -> y.garden(v, 0), 5, -1);
        FULL_UP.refuses("BAD is named ahead of FULL, NOISE", (y, v) -> y.garden(0, v), -1, -1);
        QuarrelWalls five = Due.of("2;p000,p000,p000,p000,p0");
        due.due("the sixth behind a STREET of five", five.garden(4, 9), 5);
        due.due("the seventh", five.garden(4, 9), -3);
    }

    /** "a WALL of no COURSES, no QUARREL between". */
    private static void aNewWallHasNothing() {
        QuarrelWalls x = Due.of("2;p099,p099,p099,p099,p099,p0");
        x.weeks(2);
        for (int w = 0; w < 5; w++) {
            x.sorry(w);
        }
        Due.street(x, "2;p0");
        due.due("one GARDEN has no WALL", x.wall(0, 0), -1);
        for (int g = 1; g < 6; g++) {
            x.garden(0, 0);
            int[] nothing = {0, 0, 99, 0};
            for (int what = 0; what < 4; what++) {
                due.due("wall(" + (g - 1) + ", " + what + ")", x.wall(g - 1, what), nothing[what]);
            }
            due.due("no WALL behind the last GARDEN", x.wall(g, 0), -1);
        }
        due.due("no more PAID than nothing", x.count(6), 0);
    }

    /** "a new GARDEN leave[s] nothing to be UNDONE". */
    private static void aNewGardenLeavesNothingToBeUndone() {
        QuarrelWalls x = Due.of("2;p055,p0");
        x.weeks(9);
        x.gossip(0, 1);
        due.due("8 are known", x.count(9), 8);
        int week = x.count(1);
        due.due("a GARDEN", x.garden(0, 0), 2);
        due.due("none is known", x.count(9), 0);
        due.due("undo()", x.undo(), -4);
        due.due("the WEEK stays", x.count(1), week);
        x.gossip(1, 4);
        due.due("what comes then may be UNDONE", x.undo(), 0);
        due.due("the new WALL is as it came", x.wall(1, 1), 0);
    }

    private static void ofIsAsTold() {
        RICH.within("of's GARDEN", (x, v) -> x.of(v, 0), 0, 2, 0, 2);
        RICH.within("of's what", (x, v) -> x.of(1, v), 0, 5, 1, 5);
        FULL_UP.within("of's GARDEN of six", (x, v) -> x.of(v, 1), 0, 5, 0, 6);
        NEW.outside("of's GARDEN of none", (x, v) -> x.of(v, 0), 0, -1, -1);
        NEW.refuses("of's GARDEN of none", (x, v) -> x.of(v, 2), 0, -1);
        ALONE.within("of's GARDEN of one", (x, v) -> x.of(v, 0), 0, 0, 4, 4);
        for (int what = 0; what < 6; what++) {
            final int of = what;
            RICH.onlyAsks("of(1, " + of + ")", (x, v) -> x.of(v, of), 1);
            RICH.refuses("GARDEN behind the last, what " + of + ",", (x, v) -> x.of(v, of), 3, -1);
        }
    }

    /** "3 what GALLS about the one ahead of it now (0: there is none), 4 about the one behind it"; a MASON is galled by any. */
    private static void noneAheadNoneBehind() {
        ALONE.answers("none ahead", (x, v) -> x.of(0, v), 3, 0);
        ALONE.answers("none behind", (x, v) -> x.of(0, v), 4, 0);
        ALONE.answers("sees none", (x, v) -> x.of(0, v), 5, 0);
        QuarrelWalls x = Due.of("7;a000,a000,a000,a000,a000,a0");
        for (int g = 0; g < 6; g++) {
            due.due("ahead of " + g, x.of(g, 3), g == 0 ? 0 : 1);
            due.due("behind " + g, x.of(g, 4), g == 5 ? 0 : 1);
        }
    }

    /** "the NOISE of the other by 3", "What is divided is cut", "3 DEAF: as if the other made no NOISE". */
    private static void noiseIsCutByThree() {
        int[][] byNoise = {
            {0, 0, 0, 1, 1, 1, 2, 2, 2, 3},
            {0, 0, 0, 2, 2, 2, 4, 4, 4, 6},
            {0, 0, 0, 0, 0, 0, 1, 1, 1, 2},
            {0, 0, 0, 0, 0, 0, 0, 0, 0, 0},
            {1, 1, 1, 3, 3, 3, 5, 5, 5, 7}};
        for (int kind = 0; kind < 5; kind++) {
            QuarrelWalls x = new QuarrelWalls();
            x.garden(0, 0);
            x.garden(kind, 9);
            x.garden(0, 0);
            for (int noise = 0; noise < 10; noise++) {
                x.noise(0, noise);
                x.noise(2, 9 - noise);
                due.due("KIND " + kind + " by NOISE " + noise + " ahead", x.of(1, 3), byNoise[kind][noise]);
                due.due("KIND " + kind + " by NOISE " + (9 - noise) + " behind", x.of(1, 4), byNoise[kind][9 - noise]);
                due.due("a PLAIN one by NOISE 9", x.of(0, 4), 3);
                due.due("the WEEK", x.wall(0, 2), 100 + byNoise[kind][noise] + 3 - 1);
            }
        }
    }

    /** "COURSES between them by 5": as high as a WALL can be, down to none. */
    private static void coursesAreCutByFive() {
        int[] twice = {2, 2, 2, 2, 2, 4, 4, 4, 4, 4, 6, 6, 6, 6, 6, 8, 8, 8, 8, 8};
        QuarrelWalls x = Due.of("2;s399,p3");
        x.rule(1, 0);
        x.weeks(2);
        for (int courses = 19; courses >= 0; courses--) {
            due.due("so high", x.wall(0, 0), courses);
            due.due("a SULKER by " + courses + " COURSES", x.of(0, 4), twice[courses]);
            due.due("a PLAIN one by " + courses + " COURSES", x.of(1, 3), twice[courses] / 2);
            due.due("both", x.wall(0, 2), 100 + twice[courses] * 3 / 2);
            x.lovers(0);
        }
    }

    /** "2 MILD: 1 less (0 at least)"; "3 DEAF (below MILD)": of both NOISE and COURSES, and of COURSES alone. */
    private static void mildIsNoughtAtLeast() {
        int[] mild = {0, 0, 0, 0, 0, 1, 1, 1, 1, 1, 2, 2, 2, 2, 2, 3, 3, 3, 3, 3};
        int[] deaf = {0, 0, 0, 0, 0, 0, 0, 0, 0, 0, 1, 1, 1, 1, 1, 2, 2, 2, 2, 2};
        QuarrelWalls x = Due.of("2;m399,d3");
        x.rule(1, 0);
        x.weeks(2);
        for (int courses = 19; courses >= 0; courses--) {
            due.due("a MILD one by NOISE 3 and COURSES " + courses, x.of(0, 4), mild[courses]);
            due.due("a DEAF one by NOISE 3 and COURSES " + courses, x.of(1, 3), deaf[courses]);
            x.noise(1, 0);
            due.due("a MILD one by COURSES " + courses + " alone", x.of(0, 4), deaf[courses]);
            x.noise(1, 3);
            x.lovers(0);
        }
    }

    /** "next ones to either side till a WALL of 5 COURSES or more (a set)", "itself not". */
    private static void seesTillFiveCourses() {
        for (int high = 0; high < 5; high++) {
            QuarrelWalls x = Due.of("2;p0" + quarrel(high, 0) + ",p0" + quarrel(high, 1) + ",p0" + quarrel(high, 2)
                    + ",p0" + quarrel(high, 3) + ",p0" + quarrel(high, 4) + ",p0");
            x.rule(1, 0);
            due.due("no WALL hides: from GARDEN " + high, x.of(high, 5), 63 & ~(1 << high));
            x.weeks(2);
            due.due("5 COURSES", x.wall(high, 0), 5);
            int ahead = (2 << high) - 1;
            for (int g = 0; g < 6; g++) {
                due.due("over 5 COURSES from " + g, x.of(g, 5), (g <= high ? ahead : 63 & ~ahead) & ~(1 << g));
            }
            x.lovers(high);
            for (int g = 0; g < 6; g++) {
                due.due("over 4 COURSES from " + g, x.of(g, 5), 63 & ~(1 << g));
            }
        }
        QuarrelWalls x = Due.of("2;p025,p025,p025,p025,p025,p0");
        x.rule(1, 0);
        x.weeks(2);
        for (int g = 0; g < 6; g++) {
            due.due("none is seen from " + g, x.of(g, 5), 0);
        }
        x.lovers(2);
        due.due("till the next WALL of 5", x.of(2, 5), 8);
        due.due("and from the other side", x.of(3, 5), 4);
    }

    private static String quarrel(int high, int wall) {
        return wall == high ? "25" : "24";
    }

    private static void wallIsAsTold() {
        RICH.within("wall's WALL", (x, v) -> x.wall(v, 1), 0, 1, 15, 99);
        RICH.within("wall's what", (x, v) -> x.wall(0, v), 0, 3, 4, 3);
        FULL_UP.within("wall's WALL of five", (x, v) -> x.wall(v, 1), 0, 4, 12, 55);
        NEW.refuses("wall without GARDENS", (x, v) -> x.wall(v, 0), 0, -1);
        ALONE.refuses("wall of one GARDEN", (x, v) -> x.wall(v, 0), 0, -1);
        for (int what = 0; what < 4; what++) {
            final int of = what;
            RICH.onlyAsks("wall(0, " + of + ")", (x, v) -> x.wall(v, of), 0);
            RICH.refuses("WALL behind the last, what " + of + ",", (x, v) -> x.wall(v, of), 2, -1);
        }
    }

    /** "how much that would be more in this WEEK (100 more)": the greatest, the least, none. */
    private static void theMostAndTheLeastOfAWeek() {
        QuarrelWalls x = Due.of("2;a999,a9");
        x.rule(1, 0);
        x.weeks(2);
        due.due("two MASONS, NOISE 9, 19 COURSES, EASE 0", x.wall(0, 2), 126);
        due.due("QUARREL 99 at most", x.wall(0, 1), 99);
        QuarrelWalls y = Due.of("2;p000,p0");
        y.rule(1, 9);
        due.due("nothing GALLS, EASE 9", y.wall(0, 2), 91);
        y.rule(1, 0);
        due.due("nothing GALLS, EASE 0", y.wall(0, 2), 100);
    }

    /** "3 in how many WEEKS an APOLOGY may be made over it (0: now)"; "none within 3 WEEKS behind the last one". */
    private static void weeksToAnApology() {
        QuarrelWalls x = Due.of("52;p099,p099,p0");
        due.due("0: now", x.wall(0, 3), 0);
        x.weeks(1);
        x.sorry(0);
        for (int left = 3; left >= 0; left--) {
            due.due("in " + left, x.wall(0, 3), left);
            due.due("over the other: now", x.wall(1, 3), 0);
            due.due("the set", x.count(8), left == 0 ? 3 : 2);
            if (left > 0) {
                due.due("NOT", x.sorry(0), -2);
                x.weeks(1);
            }
        }
        due.due("now it may", x.sorry(0) > 0 ? 1 : 0, 1);
        due.due("3 from then", x.wall(0, 3), 3);
        x.weeks(52);
        due.due("never below 0", x.wall(0, 3), 0);
    }

    /** "NOISE becomes v: what it was. BAD." */
    private static void noiseBecomes() {
        RICH.within("noise's GARDEN", (x, v) -> x.noise(v, 9), 0, 2, 5, 4);
        RICH.within("noise's v", (x, v) -> x.noise(1, v), 0, 9, 3, 3);
        NEW.refuses("noise without GARDENS", (x, v) -> x.noise(v, 1), 0, -1);
        FULL_UP.within("noise's GARDEN of six", (x, v) -> x.noise(v, 1), 0, 5, 0, 6);
        QuarrelWalls x = Whole.rich();
        due.due("noise(0, 0)", x.noise(0, 0), 5);
        due.due("it is 0", x.of(0, 1), 0);
        due.due("noise(0, 9)", x.noise(0, 9), 0);
        due.due("it is 9", x.of(0, 1), 9);
        due.due("the others stay", 10 * x.of(1, 1) + x.of(2, 1), 34);
        due.due("what may be UNDONE stays", x.count(9), 8);
    }

    /** "YEAR is 2 .. 52", "EASE 0 .. 9"; "0 YEAR, 1 EASE becomes v: what it was. BAD." */
    private static void ruleBecomes() {
        RICH.within("rule's YEAR", (x, v) -> x.rule(0, v), 2, 52, 3, 3);
        RICH.within("rule's EASE", (x, v) -> x.rule(1, v), 0, 9, 2, 2);
        RICH.within("rule's what", (x, v) -> x.rule(v, 2), 0, 1, 3, 2);
        NEW.within("rule's YEAR of a new one", (x, v) -> x.rule(0, v), 2, 52, 12, 12);
        NEW.within("rule's EASE of a new one", (x, v) -> x.rule(1, v), 0, 9, 1, 1);
        RICH.refuses("an EASE is no YEAR:", (x, v) -> x.rule(0, v), 0, -1);
        RICH.refuses("a YEAR is no EASE:", (x, v) -> x.rule(1, v), 12, -1);
        QuarrelWalls x = Whole.rich();
        due.due("YEAR 52", x.rule(0, 52), 3);
        due.due("was 52", x.rule(0, 2), 52);
        due.due("is 2", x.count(2), 2);
        due.due("EASE 9", x.rule(1, 9), 2);
        due.due("was 9", x.rule(1, 0), 9);
        due.due("is 0", x.count(3), 0);
        due.due("what may be UNDONE stays", x.count(9), 8);
    }

    private static void countIsAsTold() {
        RICH.within("count's what", (x, v) -> x.count(v), 0, 9, 3, 8);
        NEW.within("count's what of a new one", (x, v) -> x.count(v), 0, 9, 0, 0);
        for (int what = 0; what < 10; what++) {
            RICH.onlyAsks("count(" + what + ")", (x, v) -> x.count(v), what);
        }
        QuarrelWalls x = Due.of("2;a999,a999,a999,a999,a999,a9");
        x.weeks(2);
        due.due("all WALLS as high as can be", x.count(4), 95);
        due.due("all QUARRELS as great as can be", x.count(5), 495);
        due.due("PAID by either for each COURSE", x.count(6), 380);
        for (int g = 0; g < 6; g++) {
            due.due("PAID by " + g, x.of(g, 2), g == 0 || g == 5 ? 38 : 76);
        }
    }

    /** "7 WEEKS to the next MICHAELMAS (1 to YEAR)". */
    private static void countOfWeeksToMichaelmas() {
        int[] years = {2, 3, 12, 51, 52};
        for (int year : years) {
            QuarrelWalls x = Due.of(year + ";p0");
            for (int week = 0; week <= year; week++) {
                due.due("YEAR " + year + ", WEEK " + week, x.count(7), week == year ? year : year - week);
                x.weeks(1);
            }
        }
        QuarrelWalls x = Due.of("52;p0");
        x.weeks(12);
        int[][] toGo = {{2, 2}, {3, 3}, {4, 4}, {5, 3}, {6, 6}, {7, 2}, {8, 4}, {9, 6}, {11, 10}, {12, 12}, {13, 1}, {14, 2}, {52, 40}};
        for (int[] row : toGo) {
            x.rule(0, row[0]);
            due.due("WEEK 12, YEAR " + row[0], x.count(7), row[1]);
        }
    }

    /** "8 WALLS over which an APOLOGY may be made (a set)": none, one by one, all. */
    private static void countOfOpenWalls() {
        QuarrelWalls x = Due.of("2;p000,p000,p000,p000,p000,p0");
        int open = 31;
        due.due("all", x.count(8), open);
        for (int w = 0; w < 5; w++) {
            x.sorry(w);
            open &= ~(1 << w);
            due.due("but for 0 .. " + w, x.count(8), open);
        }
        x.weeks(2);
        due.due("none yet", x.count(8), 0);
        x.weeks(1);
        due.due("all again", x.count(8), 31);
        due.due("one GARDEN, no WALL", Due.of("2;p0").count(8), 0);
        due.due("two GARDENS, one WALL", Due.of("2;p000,p0").count(8), 1);
    }

    /** "9 what may be UNDONE"; "8 are known". */
    private static void countOfWhatMayBeUndone() {
        QuarrelWalls x = Due.of("2;p000,p0");
        for (int k = 0; k < 20; k++) {
            due.due("behind " + k, x.count(9), Math.min(k, 8));
            x.gossip(0, 1);
        }
    }
}
