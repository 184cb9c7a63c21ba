/** Promises 19 to 26, and what they tell by the Terms: each sentence that names a boundary has a test of its own. */
public final class BoundsForetoldTest {
    private static final Due due = new Due();
    private static final String STREET = "6;p730,s460,m915,d245,a088,p3";
    private static final Edge RICH = new Edge(due, Whole::rich);
    private static final Edge NEW = new Edge(due, QuarrelWalls::new);
    private static final Edge ALONE = new Edge(due, () -> Due.of("7;a9"));
    private static final Edge FIVE_WALLS = new Edge(due, () -> Due.of(STREET));

    public static void main(String[] args) {
        aheadIsAsTold();
        aheadOfAll();
        aheadByNoWeeks();
        aheadOverMichaelmas();
        aheadIsHeld();
        settlesAtOnce();
        settlesTwentyAtMost();
        settlesByWallsAlone();
        leastGiftIsAsTold();
        noMoreThanHCourses();
        aGiftOfFourHundredAtMost();
        aGiftIsOfNoUseBelowNought();
        sorriesIsAsTold();
        atMostSoManyWalls();
        whereOneMayBe();
        fewestWallsThenTheLeastSet();
        stirIsAsTold();
        noWallsToStir();
        theFirstOfLikeOnes();
        gossipIsHeld();
        holdsIsAsTold();
        twelveCoursesMayFall();
        cutEachTime();
        noImage();
        anImageOfEverything();
        theLatestImage();
        due.end();
    }

    private static QuarrelWalls still(String text) {
        QuarrelWalls x = Due.of(text);
        x.rule(1, 0);
        return x;
    }

    /** "behind n WEEKS (0 .. 104)": "COURSES (what 0), QUARREL (1)". BAD. */
    private static void aheadIsAsTold() {
        FIVE_WALLS.within("ahead's WALL", (x, v) -> x.ahead(v, 1, 1), 0, 4, 34, 90);
        FIVE_WALLS.within("ahead's n", (x, v) -> x.ahead(0, v, 1), 0, 104, 30, 99);
        FIVE_WALLS.within("ahead's n, COURSES", (x, v) -> x.ahead(0, v, 0), 0, 104, 0, 19);
        FIVE_WALLS.within("ahead's n, all", (x, v) -> x.ahead(-4, v, 0), 0, 104, 0, 76);
        FIVE_WALLS.within("ahead's what", (x, v) -> x.ahead(0, 6, v), 0, 1, 10, 54);
        FIVE_WALLS.within("ahead's what, all", (x, v) -> x.ahead(-4, 6, v), 0, 1, 57, 297);
        RICH.outside("ahead's WALL", (x, v) -> x.ahead(v, 1, 1), 0, 1, -1);
        RICH.onlyAsks("ahead", (x, v) -> x.ahead(0, v, 1), 104);
        RICH.onlyAsks("ahead of all", (x, v) -> x.ahead(-4, v, 0), 104);
    }

    /** "of all (wall NONE)": NONE is -4, and no other number below 0 is all. */
    private static void aheadOfAll() {
        int[] wrong = {-1, -2, -3, -5, -11};
        for (int wall : wrong) {
            FIVE_WALLS.refuses("ahead's WALL", (x, v) -> x.ahead(v, 1, 0), wall, -1);
        }
        NEW.answers("all of none", (x, v) -> x.ahead(v, 104, 0), -4, 0);
        NEW.answers("all of none, QUARRELS", (x, v) -> x.ahead(v, 104, 1), -4, 0);
        NEW.refuses("all of none, n", (x, v) -> x.ahead(-4, v, 0), 105, -1);
        NEW.refuses("WALL of none", (x, v) -> x.ahead(v, 0, 0), 0, -1);
        ALONE.answers("all of one alone", (x, v) -> x.ahead(v, 104, 1), -4, 0);
        ALONE.refuses("WALL of one alone", (x, v) -> x.ahead(v, 0, 0), 0, -1);
    }

    private static void aheadByNoWeeks() {
        QuarrelWalls x = Whole.rich();
        for (int w = 0; w < 2; w++) {
            for (int what = 0; what < 2; what++) {
                due.due("behind no WEEKS", x.ahead(w, 0, what), x.wall(w, what));
            }
        }
        due.due("all COURSES", x.ahead(-4, 0, 0), x.count(4));
        due.due("all QUARRELS", x.ahead(-4, 0, 1), x.count(5));
    }

    /** The WEEK of MICHAELMAS is the first with its COURSES, whatever WEEK it is now. */
    private static void aheadOverMichaelmas() {
        int[] years = {2, 3, 51, 52};
        for (int year : years) {
            for (int gone = 0; gone < 3; gone++) {
                QuarrelWalls x = still(year + ";p050,p0");
                if (gone > 0) {
                    x.weeks(gone);
                }
                x.rule(1, 0);
                int toGo = x.count(7);
                int high = gone >= year ? 10 : 0;
                due.due("YEAR " + year + ", WEEK " + gone + ": ahead of MICHAELMAS", x.ahead(0, toGo - 1, 0), high);
                due.due("at MICHAELMAS", x.ahead(0, toGo, 0), gone == 2 && year == 2 ? 11 : 10);
            }
        }
        // from within a YEAR of 9 WEEKS: 4 to go, then 9, 9, ..
        QuarrelWalls within = Due.of("9;p099,p0");
        within.weeks(5);
        within.gift(0, 0, 400);
        within.gift(0, 0, 400);
        within.gift(0, 0, 400);
        within.gift(0, 0, 100);
        within.gift(0, 0, 36);
        due.due("QUARREL 18 now", within.wall(0, 1), 18);
        int[][] courses = {{3, 0}, {4, 2}, {12, 2}, {13, 1}, {21, 1}, {22, 0}, {104, 0}};
        for (int[] row : courses) {
            due.due("from within a YEAR, COURSES behind " + row[0], within.ahead(0, row[0], 0), row[1]);
        }
        // what is foretold for 104 WEEKS is what comes
        for (int year = 2; year <= 52; year += 10) {
            QuarrelWalls told = Due.of(year + ";s730,m460,a9");
            QuarrelWalls lived = Due.of(year + ";s730,m460,a9");
            for (int n = 1; n <= 104; n++) {
                due.due("YEAR " + year + ", all COURSES behind " + n, told.ahead(-4, n, 0), lived.weeks(1));
                due.due("YEAR " + year + ", QUARREL behind " + n, told.ahead(1, n, 1), lived.wall(1, 1));
            }
        }
    }

    /** A QUARREL that is 0, 99 on the way stays within 0 .. 99. */
    private static void aheadIsHeld() {
        QuarrelWalls x = Due.of("52;p003,p0");
        int[] falls = {3, 2, 1, 0, 0, 0};
        for (int n = 0; n < falls.length; n++) {
            due.due("QUARREL behind " + n, x.ahead(0, n, 1), falls[n]);
        }
        QuarrelWalls y = still("52;p996,p0");
        int[] rises = {96, 99, 99, 99};
        for (int n = 0; n < rises.length; n++) {
            due.due("QUARREL behind " + n, y.ahead(0, n, 1), rises[n]);
        }
        due.due("19 COURSES at most", y.ahead(0, 52, 0), 19);
    }

    /** "how many MICHAELMASES (0 .. 20) come first till one that changes no WALL". */
    private static void settlesAtOnce() {
        NEW.answers("settles() of a new one", (x, v) -> x.settles(), 0, 0);
        ALONE.answers("settles() of one alone", (x, v) -> x.settles(), 0, 0);
        RICH.onlyAsks("settles()", (x, v) -> x.settles(), 0);
        due.due("QUARREL 4 makes no COURSE", still("2;p004,p0").settles(), 0);
        due.due("QUARREL 5 makes one", still("2;p005,p0").settles(), 1);
        due.due("the last WALL of five is one", still("2;p000,p000,p000,p000,p005,p0").settles(), 1);
        due.due("the first as well", still("2;p005,p000,p000,p000,p000,p0").settles(), 1);
        due.due("the one that settles last", still("2;p015,p000,p000,p000,p005,p0").settles(), 1);
    }

    /** "(0 .. 20)"; "none": NONE. */
    private static void settlesTwentyAtMost() {
        due.due("20", still("2;a392,p261,p733,p100,m603,m4").settles(), 20);
        QuarrelWalls x = Due.of("2;a928,d186,d922,s200,m508,s2");
        x.rule(1, 1);
        int from = x.settles();
        due.due("none within 20", from, -4);
        int left = 0;
        for (int m = 1; m <= 60 && left == 0; m++) {
            x.weeks(2);
            left = x.settles() == -4 ? 0 : m;
        }
        due.due("20 is the first that is told", x.settles(), 20);
        for (int m = 19; m >= 0; m--) {
            x.weeks(1);
            due.due("a WEEK is no MICHAELMAS", x.settles(), m + 1);
            x.weeks(1);
            due.due("one MICHAELMAS less", x.settles(), m);
        }
        int courses = x.count(4);
        due.due("the next changes no WALL", x.weeks(2), courses);
    }

    /** A QUARREL that changes while COURSES stay is no change of a WALL. */
    private static void settlesByWallsAlone() {
        QuarrelWalls x = still("2;p900,m0");
        // 3 more for NOISE 9, less 1: 2 in each WEEK, so 4 by the first MICHAELMAS
        due.due("QUARREL 4 behind it", x.ahead(0, 2, 1), 4);
        due.due("no WALL is changed", x.settles(), 0);
        x.gossip(0, 1);
        due.due("QUARREL 5 behind it", x.ahead(0, 2, 1), 5);
        due.holds("a WALL is changed", x.settles() != 0);
        QuarrelWalls y = Due.of("2;p099,p0");
        y.rule(1, 0);
        y.weeks(2);
        y.lovers(0);
        due.due("a COURSE that LOVERS took comes back", y.settles(), 1);
        QuarrelWalls z = still("2;p000,p005,p0");
        z.weeks(2);
        z.gossip(0, 5);
        z.gift(1, 0, 25);
        due.due("as many COURSES in all", z.ahead(-4, 2, 0), z.count(4));
        due.due("one rises as another sinks: both are changed", z.settles(), 1);
    }

    /** "LEAST GIFT over a WALL (0 .. 400, now)", "h COURSES (0 .. 19)"; "LEAST GIFT; NONE. BAD." */
    private static void leastGiftIsAsTold() {
        FIVE_WALLS.within("leastGift's WALL", (x, v) -> x.leastGift(v, 19), 0, 4, 0, 0);
        FIVE_WALLS.within("leastGift's h", (x, v) -> x.leastGift(2, v), 0, 19, 25, 0);
        FIVE_WALLS.within("leastGift's h, none", (x, v) -> x.leastGift(4, v), 0, 19, -4, 0);
        RICH.outside("leastGift's WALL", (x, v) -> x.leastGift(v, 0), 0, 1, -1);
        NEW.refuses("leastGift without GARDENS", (x, v) -> x.leastGift(v, 19), 0, -1);
        ALONE.refuses("leastGift of one alone", (x, v) -> x.leastGift(v, 19), 0, -1);
        RICH.onlyAsks("leastGift", (x, v) -> x.leastGift(v, 3), 0);
    }

    /** "by which it has no more than h COURSES behind the next MICHAELMAS". */
    private static void noMoreThanHCourses() {
        for (int h = 0; h <= 19; h++) {
            int most = 5 * h + 4;
            for (int over = 0; over <= 21 && most + over <= 99; over++) {
                QuarrelWalls x = still("2;p0" + (most + over) / 10 + (most + over) % 10 + ",p0");
                due.due("QUARREL " + (most + over) + ", " + h + " COURSES", x.leastGift(0, h), over <= 20 ? over * over : -4);
            }
        }
        // at the next MICHAELMAS, not at a later one, and not now
        QuarrelWalls x = still("2;p012,p0");
        x.weeks(2);
        due.due("2 COURSES now", x.wall(0, 0), 2);
        due.due("8 less make 4", x.leastGift(0, 0), 64);
        due.due("3 less make 9", x.leastGift(0, 1), 9);
        due.due("it has 2 all the same", x.leastGift(0, 2), 0);
        QuarrelWalls y = still("9;p910,p0");
        y.weeks(8);
        due.due("QUARREL 34, one WEEK of 3 to go", y.leastGift(0, 6), 9);
    }

    /** "(0 .. 400, now)": 20 less at most. */
    private static void aGiftOfFourHundredAtMost() {
        due.due("20 less", still("2;p024,p0").leastGift(0, 0), 400);
        due.due("21 less", still("2;p025,p0").leastGift(0, 0), -4);
        due.due("19 less", still("2;p023,p0").leastGift(0, 0), 361);
        due.due("1 less", still("2;p005,p0").leastGift(0, 0), 1);
        due.due("none less", still("2;p004,p0").leastGift(0, 0), 0);
    }

    /** A GIFT is made now, "(0 at least)": it can't be spent on WEEKS to come. */
    private static void aGiftIsOfNoUseBelowNought() {
        QuarrelWalls x = still("2;p902,p0");
        // 2 now, then 3 more twice: 8; 0 now: 6
        due.due("1 COURSE either way", x.leastGift(0, 0), -4);
        due.due("1 COURSE", x.leastGift(0, 1), 0);
        QuarrelWalls y = Due.of("2;p603,p0");
        // 3 now, 2 more less 1 twice: 5; a GIFT of 1 makes it 4
        due.due("4 then", y.leastGift(0, 0), 1);
        QuarrelWalls z = Due.of("2;p607,p0");
        due.due("25: 5 less than 7", z.leastGift(0, 0), 25);
    }

    /** "the set of at most m (0 .. 5) WALLS"; "the set (what 0), how many COURSES (1). BAD." */
    private static void sorriesIsAsTold() {
        FIVE_WALLS.within("sorries' m", (x, v) -> x.sorries(v, 0), 0, 5, 0, 31);
        FIVE_WALLS.within("sorries' m, COURSES", (x, v) -> x.sorries(v, 1), 0, 5, 57, 42);
        FIVE_WALLS.within("sorries' what", (x, v) -> x.sorries(1, v), 0, 1, 16, 52);
        NEW.within("sorries' m of none", (x, v) -> x.sorries(v, 0), 0, 5, 0, 0);
        NEW.within("sorries' m of none, COURSES", (x, v) -> x.sorries(v, 1), 0, 5, 0, 0);
        NEW.outside("sorries' what of none", (x, v) -> x.sorries(5, v), 0, 1, -1);
        ALONE.within("sorries' m of one alone", (x, v) -> x.sorries(v, 0), 0, 5, 0, 0);
        RICH.onlyAsks("sorries", (x, v) -> x.sorries(v, 0), 5);
    }

    private static void atMostSoManyWalls() {
        QuarrelWalls x = still("2;p030,p030,p030,p030,p030,p0");
        int[] sets = {0, 1, 3, 7, 15, 31};
        for (int m = 0; m <= 5; m++) {
            due.due("at most " + m, x.sorries(m, 0), sets[m]);
            due.due("COURSES with " + m, x.sorries(m, 1), 30 - 2 * m);
        }
        QuarrelWalls two = still("2;p030,p030,p0");
        for (int m = 0; m <= 5; m++) {
            due.due("of two at most " + m, two.sorries(m, 0), m > 1 ? 3 : m);
        }
    }

    /** "an APOLOGY being made now over each (where one may be)". */
    private static void whereOneMayBe() {
        QuarrelWalls x = still("12;p099,p030,p090,p0");
        x.sorry(0);
        due.due("66 would be less the most", x.sorries(1, 0), 4);
        due.due("but over WALL 0 none may be", x.sorries(5, 0), 6);
        x.weeks(2);
        due.due("not yet", x.sorries(5, 0), 6);
        x.weeks(1);
        due.due("now", x.sorries(5, 0), 7);
        x.sorry(0);
        x.sorry(1);
        x.sorry(2);
        due.due("over none", x.sorries(5, 0), 0);
        due.due("COURSES as they come", x.sorries(5, 1), x.ahead(-4, x.count(7), 0));
    }

    /** "fewest COURSES .., of like ones the fewest WALLS, of these the least set". */
    private static void fewestWallsThenTheLeastSet() {
        // by an APOLOGY 30 becomes 20, 25 becomes 17: two COURSES less each; 3 becomes 2, 2 stays: none less
        QuarrelWalls x = still("2;p002,p003,p025,p030,p025,p0");
        due.due("none for nothing", x.sorries(5, 0), 28);
        due.due("of like ones the least set", x.sorries(1, 0), 4);
        due.due("of two", x.sorries(2, 0), 12);
        QuarrelWalls y = still("2;p030,p060,p045,p0");
        due.due("the one that does most", y.sorries(1, 0), 2);
        due.due("the two that do most", y.sorries(2, 0), 6);
        due.due("nothing to be done", still("2;p004,p004,p0").sorries(5, 0), 0);
        // fewest COURSES come first, the fewest WALLS behind
        QuarrelWalls z = still("2;p099,p006,p0");
        due.due("one COURSE less is worth a WALL more", z.sorries(5, 0), 3);
        // two small ones against a great one
        QuarrelWalls v = still("2;p009,p009,p030,p0");
        due.due("the great one is the higher set", v.sorries(1, 0), 4);
    }

    /** "GOSSIP of n (1 .. 9)"; "the WALL (what 0), how many COURSES (1); NONE. BAD." */
    private static void stirIsAsTold() {
        FIVE_WALLS.within("stir's n", (x, v) -> x.stir(v, 0), 1, 9, 0, 0);
        FIVE_WALLS.within("stir's n, COURSES", (x, v) -> x.stir(v, 1), 1, 9, 58, 59);
        FIVE_WALLS.within("stir's what", (x, v) -> x.stir(4, v), 0, 1, 0, 58);
        RICH.onlyAsks("stir", (x, v) -> x.stir(v, 1), 9);
        RICH.outside("stir's n", (x, v) -> x.stir(v, 1), 1, 9, -1);
    }

    /** "none: no WALLS". */
    private static void noWallsToStir() {
        for (int what = 0; what < 2; what++) {
            final int of = what;
            NEW.answers("stir of a new one", (x, v) -> x.stir(v, of), 1, -4);
            NEW.answers("stir of a new one", (x, v) -> x.stir(v, of), 9, -4);
            ALONE.answers("stir of one alone", (x, v) -> x.stir(v, of), 5, -4);
        }
        // the GOSSIP itself must be as told first
        NEW.outside("stir of a new one", (x, v) -> x.stir(v, 0), 1, 9, -1);
        QuarrelWalls two = still("2;p000,p0");
        due.due("one WALL", two.stir(1, 0), 0);
        due.due("of no COURSES", two.stir(1, 1), 0);
    }

    /** "the WALL over which it, now, makes most COURSES altogether .., of like ones the first". */
    private static void theFirstOfLikeOnes() {
        QuarrelWalls x = still("2;p020,p020,p020,p020,p020,p0");
        due.due("none makes any", x.stir(4, 0), 0);
        due.due("20 as they are", x.stir(4, 1), 20);
        due.due("all make one", x.stir(5, 0), 0);
        due.due("21", x.stir(5, 1), 21);
        QuarrelWalls y = still("2;p020,p021,p024,p024,p020,p0");
        due.due("1 makes one over WALL 2", y.stir(1, 0), 2);
        due.due("3 over WALL 2", y.stir(3, 0), 2);
        due.due("4 over WALL 1, the first", y.stir(4, 0), 1);
        due.due("6 makes two over WALL 2", y.stir(6, 0), 2);
        due.due("22", y.stir(6, 1), 22);
        QuarrelWalls z = still("2;p000,p000,p000,p000,p004,p0");
        due.due("the last WALL", z.stir(1, 0), 4);
    }

    /** "GOSSIP: QUARREL more by n (99 at most)". */
    private static void gossipIsHeld() {
        QuarrelWalls x = still("2;p099,p090,p0");
        due.due("over 99 it does nothing", x.stir(5, 0), 1);
        due.due("19 and 19", x.stir(5, 1), 38);
        QuarrelWalls y = Due.of("2;p099,p0");
        // held at 99 now, EASE then takes 2: 97, not 99
        y.rule(1, 3);
        due.due("99 and 9 and 6 less", y.stir(9, 1), 18);
    }

    /** "parts of a MILLION that none FALLS in n WEEKS (0 .. 52)"; BAD. */
    private static void holdsIsAsTold() {
        FIVE_WALLS.within("holds", (x, v) -> x.holds(v), 0, 52, 1000000, 1000000);
        NEW.within("holds of a new one", (x, v) -> x.holds(v), 0, 52, 1000000, 1000000);
        RICH.onlyAsks("holds", (x, v) -> x.holds(v), 52);
        RICH.outside("holds", (x, v) -> x.holds(v), 0, 52, -1);
        QuarrelWalls x = still("2;p099,p099,p099,p099,p099,p0");
        x.weeks(2);
        due.due("no WEEKS", x.holds(0), 1000000);
        due.due("one WEEK of five WALLS of 19", x.holds(1), 348678);
        due.due("all WEEKS", x.holds(52), 0);
    }

    /** "for each WALL of 12 COURSES or more", "as COURSES are now". */
    private static void twelveCoursesMayFall() {
        QuarrelWalls x = still("2;p099,p0");
        due.due("none yet, whatever comes", x.holds(52), 1000000);
        x.weeks(2);
        for (int courses = 19; courses >= 0; courses--) {
            due.due("COURSES " + courses, x.holds(1), courses >= 12 ? 1000000 - 10000 * courses : 1000000);
            x.lovers(0);
        }
    }

    /** "times (100 less COURSES) by 100, cut": each WEEK, for each WALL. */
    private static void cutEachTime() {
        int[][] heights = {{12}, {19}, {13, 17}, {19, 12, 18, 11, 15}};
        for (int[] walls : heights) {
            StringBuilder text = new StringBuilder("2;");
            for (int h : walls) {
                text.append("p0").append(h * 5 / 10).append(h * 5 % 10).append(',');
            }
            QuarrelWalls x = still(text.append("p0").toString());
            x.weeks(2);
            long parts = 1000000;
            for (int n = 0; n <= 52; n++) {
                due.due(text + " in " + n, x.holds(n), parts);
                for (int h : walls) {
                    parts = h < 12 ? parts : parts * (100 - h) / 100;
                }
            }
        }
    }

    /** "NONE: there is none." */
    private static void noImage() {
        NEW.refuses("restore()", (x, v) -> x.restore(), 0, -4);
        ALONE.refuses("restore()", (x, v) -> x.restore(), 0, -4);
        QuarrelWalls x = Due.of(STREET);
        x.weeks(3);
        String was = Due.shown(x);
        due.due("none", x.restore(), -4);
        due.holds("nothing changed", was.equals(Due.shown(x)));
        due.due("image()", x.image(), 1);
        due.due("there is one", x.restore(), 1);
        due.due("and still", x.restore(), 1);
    }

    /** "All but SHEETS, THE TAPE is kept as an IMAGE"; "All is as it was then", what may be UNDONE too. */
    private static void anImageOfEverything() {
        QuarrelWalls x = Whole.rich();
        QuarrelWalls y = Whole.rich();
        due.due("image()", x.image(), 1);
        y.image();
        x.weeks(20);
        x.noise(0, 9);
        x.noise(2, 9);
        x.rule(0, 52);
        x.rule(1, 9);
        x.seed(5);
        x.garden(4, 9);
        x.garden(4, 9);
        x.garden(4, 9);
        x.sorry(4);
        x.gift(4, 1, 400);
        due.due("restore()", x.restore(), 1);
        due.holds("all is as it was then", Whole.of(x).equals(Whole.of(y)));

        QuarrelWalls other = Whole.rich();
        QuarrelWalls same = Whole.rich();
        other.street();
        same.street();
        other.image();
        same.image();
        due.due("a STREET of other KINDS", Due.street(other, "52;a911,d822,s733,m644,p555,a4"), 6);
        other.weeks(52);
        due.due("restore()", other.restore(), 1);
        due.holds("all is as it was ahead of the STREET", Whole.of(other).equals(Whole.of(same)));

        QuarrelWalls z = Whole.rich();
        z.image();
        z.drop(0);
        z.item(1, 2, 7, 5);
        z.type('p');
        z.restore();
        due.due("THE TAPE is as it is", z.type('3'), 4);
        due.due("a STREET", z.street(), 1);
        Whole.still(z);
        due.due("SHEETS are as they are", z.drop(0), -11);
        due.due("items are as they are", Whole.item(z, 1, 2, 7), 25);

        QuarrelWalls empty = new QuarrelWalls();
        due.due("an IMAGE of no GARDENS", empty.image(), 1);
        Due.street(empty, STREET);
        empty.weeks(9);
        due.due("restore()", empty.restore(), 1);
        int[] counts = {0, 0, 12, 1, 0, 0, 0, 12, 0, 0};
        for (int what = 0; what < 10; what++) {
            due.due("count(" + what + ")", empty.count(what), counts[what]);
        }
        due.due("GARDENS come anew", empty.garden(0, 0), 0);
        empty.garden(0, 0);
        due.due("with nothing between", empty.wall(0, 1), 0);
        due.due("and nobody PAID", empty.count(6), 0);
    }

    /** An IMAGE is of the time it was made, the latest one, and what is done behind restore() does not reach it. */
    private static void theLatestImage() {
        QuarrelWalls x = Due.of("2;p050,p0");
        x.image();
        x.weeks(12);
        x.image();
        String was = Due.shown(x);
        for (int k = 0; k < 3; k++) {
            x.weeks(10);
            x.noise(0, 9);
            due.due("restore()", x.restore(), 1);
            due.holds("as it was then, time " + k, was.equals(Due.shown(x)));
            for (int left = 7; left >= 0; left--) {
                due.due("undo()", x.undo(), left);
            }
            due.due("WEEK", x.count(1), 4);
            x.gossip(0, 9);
        }
        x.restore();
        x.undo();
        x.image();
        x.weeks(1);
        x.restore();
        due.due("an IMAGE with 7 steps", x.count(9), 7);
        due.due("of WEEK 11", x.count(1), 11);
    }
}
