/**
 * Gardens in a row, and between each two of them a wall that by an ordinance is as high as the
 * quarrel is great. The words in capitals are those of the document.
 *
 * All rows are made with the object and used again: no call makes an object or an array.
 */
public final class QuarrelWalls {

    public static final int BAD = -1, NOT = -2, FULL = -3, NONE = -4, NULL = -11, CAST = -12, INDEX = -13, SIZE = -14;

    private static final int MOST_GARDENS = 6, MOST_WALLS = 5, MOST_COURSES = 19, MOST_NOISE = 9;
    private static final int GREATEST_QUARREL = 99, QUARREL_OF_A_COURSE = 5, QUARREL_OF_A_FALL = 5;
    private static final int LEAST_YEAR = 2, MOST_YEAR = 52, MOST_EASE = 9, MOST_WEEKS = 52, LAST_WEEK = 9999;
    private static final int SULKER = 1, MILD = 2, DEAF = 3, MASON = 4;
    private static final int WEEKS_BETWEEN_APOLOGIES = 3, MOST_GIFT = 400, MOST_GIFT_ROOT = 20, MOST_GOSSIP = 9;
    private static final int COURSES_THAT_HIDE = 5, COURSES_THAT_MAY_FALL = 12;
    private static final int KNOWN_STEPS = 8, MOST_LETTERS = 60, FIRST_FAULT = -20;
    private static final int FORETOLD_WEEKS = 104, FORETOLD_MICHAELMASES = 20, SEEN_MICHAELMASES = 6;
    private static final int MOST_SHEETS = 4, MOST_ITEMS = 24, BYTES = 0, SHORTS = 1, INTS = 2, LONGS = 3;
    private static final int MILLION = 1000000, LOWEST_31_BITS = 0x7fffffff;
    private static final String KIND_LETTERS = "psmda";

    private final Street street;
    private final Street kept;
    private boolean anyKept;
    private final Outlook outlook;
    private final Tape tape;
    private final Sheet[] sheets;

    public QuarrelWalls() {
        street = new Street();
        kept = new Street();
        anyKept = false;
        outlook = new Outlook(street);
        tape = new Tape();
        sheets = new Sheet[MOST_SHEETS];
        for (int s = 0; s < MOST_SHEETS; s++) {
            sheets[s] = new Sheet();
        }
    }

    // ---- 1 gardens, walls

    public int garden(int kind, int noise) {
        if (!within(kind, 0, MASON) || !within(noise, 0, MOST_NOISE)) {
            return BAD;
        }
        if (street.gardens >= MOST_GARDENS) {
            return FULL;
        }
        return street.settle(kind, noise);
    }

    public int of(int garden, int what) {
        if (!street.isGarden(garden)) {
            return BAD;
        }
        switch (what) {
            case 0: return street.kinds[garden];
            case 1: return street.noises[garden];
            case 2: return street.now.paid[garden];
            case 3: return street.isGarden(garden - 1) ? street.galledBy(garden, garden - 1) : 0;
            case 4: return street.isGarden(garden + 1) ? street.galledBy(garden, garden + 1) : 0;
            case 5: return street.inSight(garden);
            default: return BAD;
        }
    }

    public int wall(int wall, int what) {
        if (!street.isWall(wall)) {
            return BAD;
        }
        switch (what) {
            case 0: return street.now.courses[wall];
            case 1: return street.now.quarrels[wall];
            case 2: return 100 + street.weekly(wall, street.now.courses[wall]);
            case 3: return street.now.weeksToApology(wall);
            default: return BAD;
        }
    }

    public int noise(int garden, int v) {
        if (!street.isGarden(garden) || !within(v, 0, MOST_NOISE)) {
            return BAD;
        }
        int was = street.noises[garden];
        street.noises[garden] = v;
        return was;
    }

    public int rule(int what, int v) {
        if (what == 0 && within(v, LEAST_YEAR, MOST_YEAR)) {
            int was = street.year;
            street.year = v;
            return was;
        }
        if (what == 1 && within(v, 0, MOST_EASE)) {
            int was = street.ease;
            street.ease = v;
            return was;
        }
        return BAD;
    }

    public int type(int letter) {
        if (!within(letter, 32, 126)) {
            return BAD;
        }
        if (tape.length >= MOST_LETTERS) {
            return FULL;
        }
        return tape.write((char) letter);
    }

    public int street() {
        int read = tape.parse();
        tape.length = 0;
        if (read > 0) {
            street.layOut(tape);
        }
        return read;
    }

    public int count(int what) {
        switch (what) {
            case 0: return street.gardens;
            case 1: return street.now.week;
            case 2: return street.year;
            case 3: return street.ease;
            case 4: return sum(street.now.courses, street.walls());
            case 5: return sum(street.now.quarrels, street.walls());
            case 6: return sum(street.now.paid, street.gardens);
            case 7: return street.weeksToMichaelmas();
            case 8: return street.openToApology();
            case 9: return street.past.known;
            default: return BAD;
        }
    }

    // ---- what is done

    public int weeks(int n) {
        int refusal = refusalOfWeeks(n);
        if (refusal != 0) {
            return refusal;
        }
        for (int k = 0; k < n; k++) {
            street.remember();
            street.passWeek();
        }
        return sum(street.now.courses, street.walls());
    }

    public int sorry(int wall) {
        if (!street.isWall(wall)) {
            return BAD;
        }
        if (street.now.weeksToApology(wall) > 0) {
            return NOT;
        }
        street.remember();
        return street.apologise(wall);
    }

    public int gift(int wall, int by, int n) {
        if (!street.isWall(wall) || !within(by, 0, 1) || !within(n, 1, MOST_GIFT)) {
            return BAD;
        }
        street.remember();
        street.now.paid[wall + by] += n;
        return street.vary(wall, -rootOf(n));
    }

    public int gossip(int wall, int n) {
        if (!street.isWall(wall) || !within(n, 1, MOST_GOSSIP)) {
            return BAD;
        }
        street.remember();
        return street.vary(wall, n);
    }

    public int lovers(int wall) {
        if (!street.isWall(wall)) {
            return BAD;
        }
        if (street.now.courses[wall] <= 0) {
            return NOT;
        }
        street.remember();
        street.now.courses[wall]--;
        return street.now.courses[wall];
    }

    public int falls(int wall) {
        if (!street.isWall(wall)) {
            return BAD;
        }
        if (street.now.courses[wall] <= 0) {
            return NOT;
        }
        street.remember();
        return street.collapse(wall);
    }

    public int drift(int n) {
        int refusal = refusalOfWeeks(n);
        if (refusal != 0) {
            return refusal;
        }
        int fell = 0;
        for (int k = 0; k < n; k++) {
            street.remember();
            street.passWeek();
            fell += street.blow();
        }
        return fell;
    }

    public int undo() {
        if (street.past.known <= 0) {
            return NONE;
        }
        return street.past.giveBack(street.now);
    }

    public int seed(int v) {
        if (v < 0) {
            return BAD;
        }
        int was = street.now.draw;
        street.now.draw = v;
        return was;
    }

    // ---- 2 foretold

    public int ahead(int wall, int n, int what) {
        boolean ofAll = wall == NONE;
        if (!ofAll && !street.isWall(wall) || !within(n, 0, FORETOLD_WEEKS) || !within(what, 0, 1)) {
            return BAD;
        }
        return ofAll ? outlook.allBehind(n, what) : outlook.behind(wall, n, what);
    }

    public int settles() {
        return outlook.changingMichaelmases();
    }

    public int leastGift(int wall, int h) {
        if (!street.isWall(wall) || !within(h, 0, MOST_COURSES)) {
            return BAD;
        }
        return outlook.giftFor(wall, h);
    }

    public int sorries(int m, int what) {
        if (!within(m, 0, MOST_WALLS) || !within(what, 0, 1)) {
            return BAD;
        }
        outlook.weighApologies();
        int set = outlook.bestApologies(m);
        return what == 0 ? set : outlook.coursesWith(set);
    }

    public int stir(int n, int what) {
        if (!within(n, 1, MOST_GOSSIP) || !within(what, 0, 1)) {
            return BAD;
        }
        outlook.weighGossip(n);
        int wall = outlook.bestGossip();
        return what == 0 || wall == NONE ? wall : outlook.coursesWith(1 << wall);
    }

    public int holds(int n) {
        if (!within(n, 0, MOST_WEEKS)) {
            return BAD;
        }
        return outlook.chanceToStand(n);
    }

    public int image() {
        kept.become(street);
        anyKept = true;
        return 1;
    }

    public int restore() {
        if (!anyKept) {
            return NONE;
        }
        street.become(kept);
        return 1;
    }

    // ---- 3 sheets

    public int seen(int wall, int sheet, int lane, int i, int n, int what) {
        if (!street.isWall(wall) || !isSheet(sheet) || !isLane(lane)
                || !within(n, 1, SEEN_MICHAELMASES) || !within(what, 0, 1)) {
            return BAD;
        }
        int refusal = sheets[sheet].refusal(lane, i, n);
        if (refusal != 0) {
            return refusal;
        }
        return what == 0 ? outlook.howManyFit(wall, sheets[sheet], i, n) : outlook.leastThatFits(wall, sheets[sheet], i, n);
    }

    public int film(int wall, int n, int sheet, int lane, int i) {
        if (!street.isWall(wall) || !within(n, 1, MOST_ITEMS) || !isSheet(sheet) || !isLane(lane)) {
            return BAD;
        }
        int refusal = sheets[sheet].refusal(lane, i, n);
        if (refusal != 0) {
            return refusal;
        }
        for (int k = 0; k < n; k++) {
            sheets[sheet].put(i + k, outlook.behind(wall, k + 1, 1));
        }
        return n;
    }

    public int sheet(int sheet, int lane, int n) {
        if (!isSheet(sheet) || !isLane(lane) || n > MOST_ITEMS) {
            return BAD;
        }
        if (n < 0) {
            return SIZE;
        }
        sheets[sheet].renew(lane, n);
        return n;
    }

    public int drop(int sheet) {
        if (!isSheet(sheet)) {
            return BAD;
        }
        if (!sheets[sheet].held) {
            return NULL;
        }
        sheets[sheet].held = false;
        return sheets[sheet].length;
    }

    public int item(int sheet, int lane, int i, long v) {
        if (!isSheet(sheet) || !isLane(lane)) {
            return BAD;
        }
        int refusal = sheets[sheet].refusal(lane, i, 1);
        if (refusal != 0) {
            return refusal;
        }
        sheets[sheet].put(i, v);
        return 1;
    }

    public int copy(int from, int i, int to, int j, int n) {
        if (!isSheet(from) || !isSheet(to)) {
            return BAD;
        }
        if (!sheets[from].held || !sheets[to].held) {
            return NULL;
        }
        if (sheets[from].lane != sheets[to].lane) {
            return CAST;
        }
        if (!sheets[from].has(i, n) || !sheets[to].has(j, n)) {
            return INDEX;
        }
        System.arraycopy(sheets[from].items, i, sheets[to].items, j, n);
        return n;
    }

    // ---- what several calls use

    /** Why n WEEKS can't pass; 0: they can. */
    private int refusalOfWeeks(int n) {
        if (!within(n, 1, MOST_WEEKS)) {
            return BAD;
        }
        return street.now.week + n > LAST_WEEK ? FULL : 0;
    }

    private static boolean within(int v, int low, int high) {
        return v >= low && v <= high;
    }

    private static boolean isSheet(int sheet) {
        return within(sheet, 0, MOST_SHEETS - 1);
    }

    private static boolean isLane(int lane) {
        return within(lane, BYTES, LONGS);
    }

    private static int asQuarrel(int v) {
        return Math.max(0, Math.min(GREATEST_QUARREL, v));
    }

    private static int coursesFor(int quarrel) {
        return quarrel / QUARREL_OF_A_COURSE;
    }

    private static int lessAThird(int quarrel) {
        return quarrel - quarrel / 3;
    }

    /** The greatest number whose square is not above a GIFT. */
    private static int rootOf(int gift) {
        int root = 0;
        for (int r = 1; r <= MOST_GIFT_ROOT && r * r <= gift; r++) {
            root = r;
        }
        return root;
    }

    private static int sum(int[] row, int n) {
        int all = 0;
        for (int k = 0; k < n && k < row.length; k++) {
            all += row[k];
        }
        return all;
    }

    /** All that is as it was when a step is UNDONE. */
    private static final class Standing {
        final int[] courses = new int[MOST_WALLS];
        final int[] quarrels = new int[MOST_WALLS];
        /** The first WEEK in which an APOLOGY may be made; 0 if there was none yet. */
        final int[] apologyFrom = new int[MOST_WALLS];
        final int[] paid = new int[MOST_GARDENS];
        int week = 0;
        int draw = 1;

        void become(Standing other) {
            System.arraycopy(other.courses, 0, courses, 0, MOST_WALLS);
            System.arraycopy(other.quarrels, 0, quarrels, 0, MOST_WALLS);
            System.arraycopy(other.apologyFrom, 0, apologyFrom, 0, MOST_WALLS);
            System.arraycopy(other.paid, 0, paid, 0, MOST_GARDENS);
            week = other.week;
            draw = other.draw;
        }

        void clearWall(int wall) {
            courses[wall] = 0;
            quarrels[wall] = 0;
            apologyFrom[wall] = 0;
        }

        int weeksToApology(int wall) {
            return Math.max(0, apologyFrom[wall] - week);
        }
    }

    /** The latest steps that may be UNDONE, in a ring. */
    private static final class Past {
        final Standing[] steps = new Standing[KNOWN_STEPS];
        int oldest = 0;
        int known = 0;

        Past() {
            for (int s = 0; s < KNOWN_STEPS; s++) {
                steps[s] = new Standing();
            }
        }

        void become(Past other) {
            for (int s = 0; s < KNOWN_STEPS; s++) {
                steps[s].become(other.steps[s]);
            }
            oldest = other.oldest;
            known = other.known;
        }

        void forget() {
            oldest = 0;
            known = 0;
        }

        void add(Standing now) {
            steps[(oldest + known) % KNOWN_STEPS].become(now);
            if (known < KNOWN_STEPS) {
                known++;
            } else {
                oldest = (oldest + 1) % KNOWN_STEPS;
            }
        }

        /** The caller has looked that a step is known. */
        int giveBack(Standing now) {
            known--;
            now.become(steps[(oldest + known) % KNOWN_STEPS]);
            return known;
        }
    }

    /** The GARDENS, the rules, what stands now and what may be UNDONE: all that an IMAGE keeps. */
    private static final class Street {
        final int[] kinds = new int[MOST_GARDENS];
        final int[] noises = new int[MOST_GARDENS];
        int gardens = 0;
        int year = 12;
        int ease = 1;
        final Standing now = new Standing();
        final Past past = new Past();

        void become(Street other) {
            System.arraycopy(other.kinds, 0, kinds, 0, MOST_GARDENS);
            System.arraycopy(other.noises, 0, noises, 0, MOST_GARDENS);
            gardens = other.gardens;
            year = other.year;
            ease = other.ease;
            now.become(other.now);
            past.become(other.past);
        }

        void remember() {
            past.add(now);
        }

        int walls() {
            return gardens < 2 ? 0 : gardens - 1;
        }

        boolean isGarden(int garden) {
            return within(garden, 0, gardens - 1);
        }

        boolean isWall(int wall) {
            return within(wall, 0, walls() - 1);
        }

        /** The caller has looked that there is room. */
        int settle(int kind, int noise) {
            int garden = gardens;
            kinds[garden] = kind;
            noises[garden] = noise;
            now.paid[garden] = 0;
            gardens = garden + 1;
            if (garden > 0) {
                now.clearWall(garden - 1);
            }
            past.forget();
            return garden;
        }

        void layOut(Tape read) {
            gardens = 0;
            year = read.year;
            now.week = 0;
            for (int g = 0; g < read.gardens; g++) {
                settle(read.kinds[g], read.noises[g]);
            }
            for (int w = 0; w < walls(); w++) {
                now.quarrels[w] = read.quarrels[w];
            }
        }

        static int galls(int kind, int noise, int courses) {
            int heard = kind == DEAF ? 0 : noise;
            int plain = heard / 3 + courses / 5;
            switch (kind) {
                case SULKER: return 2 * plain;
                case MASON: return 2 * plain + 1;
                case MILD:
                case DEAF: return plain > 0 ? plain - 1 : 0;
                default: return plain;
            }
        }

        int galledBy(int garden, int neighbour) {
            return galls(kinds[garden], noises[neighbour], now.courses[Math.min(garden, neighbour)]);
        }

        /** How much more a QUARREL is for a WEEK, were the WALL of so many COURSES. */
        int weekly(int wall, int courses) {
            return galls(kinds[wall], noises[wall + 1], courses) + galls(kinds[wall + 1], noises[wall], courses) - ease;
        }

        int inSight(int garden) {
            int set = 0;
            for (int g = garden - 1; g >= 0 && now.courses[g] < COURSES_THAT_HIDE; g--) {
                set |= 1 << g;
            }
            for (int g = garden + 1; g < gardens && now.courses[g - 1] < COURSES_THAT_HIDE; g++) {
                set |= 1 << g;
            }
            return set;
        }

        int openToApology() {
            int set = 0;
            for (int w = 0; w < walls(); w++) {
                if (now.weeksToApology(w) == 0) {
                    set |= 1 << w;
                }
            }
            return set;
        }

        int weeksToMichaelmas() {
            return year <= 0 ? 1 : year - now.week % year;
        }

        void passWeek() {
            for (int w = 0; w < walls(); w++) {
                vary(w, weekly(w, now.courses[w]));
            }
            boolean michaelmas = weeksToMichaelmas() == 1;
            now.week++;
            for (int w = 0; michaelmas && w < walls(); w++) {
                assess(w);
            }
        }

        void assess(int wall) {
            int more = coursesFor(now.quarrels[wall]) - now.courses[wall];
            int cost = more > 0 ? 2 * more : -more;
            now.courses[wall] += more;
            now.paid[wall] += cost;
            now.paid[wall + 1] += cost;
        }

        /** A WEEK's wind: how many WALLS FELL. */
        int blow() {
            int fell = 0;
            for (int w = 0; w < walls(); w++) {
                if (now.courses[w] >= COURSES_THAT_MAY_FALL && drawNext() / 65536 % 100 < now.courses[w]) {
                    collapse(w);
                    fell++;
                }
            }
            return fell;
        }

        int drawNext() {
            now.draw = (now.draw * 1103515245 + 12345) & LOWEST_31_BITS;
            return now.draw;
        }

        int vary(int wall, int more) {
            now.quarrels[wall] = asQuarrel(now.quarrels[wall] + more);
            return now.quarrels[wall];
        }

        int apologise(int wall) {
            now.quarrels[wall] = lessAThird(now.quarrels[wall]);
            now.apologyFrom[wall] = now.week + WEEKS_BETWEEN_APOLOGIES;
            return now.quarrels[wall];
        }

        int collapse(int wall) {
            int had = now.courses[wall];
            now.courses[wall] = 0;
            vary(wall, QUARREL_OF_A_FALL);
            return had;
        }
    }

    /**
     * What is FORETOLD of a Street. No WALL bears on another, and COURSES stay from one MICHAELMAS
     * to the next: so each WALL is foretold alone, and many WEEKS at once.
     */
    private static final class Outlook {
        final Street street;
        final int[] courses = new int[MOST_WALLS];
        final int[] quarrels = new int[MOST_WALLS];
        /** COURSES of each WALL behind the next MICHAELMAS if nothing is done over it, and if the deed weighed is. */
        final int[] plain = new int[MOST_WALLS];
        final int[] moved = new int[MOST_WALLS];

        Outlook(Street street) {
            this.street = street;
        }

        /** QUARREL behind WEEKS with no MICHAELMAS within them (there may be one at their end). */
        int grown(int wall, int quarrel, int courses, int weeks) {
            return asQuarrel(quarrel + weeks * street.weekly(wall, courses));
        }

        int behind(int wall, int n, int what) {
            int quarrel = street.now.quarrels[wall];
            int height = street.now.courses[wall];
            int left = n;
            int toGo = street.weeksToMichaelmas();
            for (int m = 0; m < FORETOLD_WEEKS && left >= toGo; m++) {
                quarrel = grown(wall, quarrel, height, toGo);
                height = coursesFor(quarrel);
                left -= toGo;
                toGo = street.year;
            }
            return what == 0 ? height : grown(wall, quarrel, height, left);
        }

        int allBehind(int n, int what) {
            int all = 0;
            for (int w = 0; w < street.walls(); w++) {
                all += behind(w, n, what);
            }
            return all;
        }

        int changingMichaelmases() {
            System.arraycopy(street.now.courses, 0, courses, 0, MOST_WALLS);
            System.arraycopy(street.now.quarrels, 0, quarrels, 0, MOST_WALLS);
            int toGo = street.weeksToMichaelmas();
            for (int m = 0; m <= FORETOLD_MICHAELMASES; m++) {
                if (!michaelmasChanges(toGo)) {
                    return m;
                }
                toGo = street.year;
            }
            return NONE;
        }

        boolean michaelmasChanges(int toGo) {
            boolean changes = false;
            for (int w = 0; w < street.walls(); w++) {
                quarrels[w] = grown(w, quarrels[w], courses[w], toGo);
                int height = coursesFor(quarrels[w]);
                changes = changes || height != courses[w];
                courses[w] = height;
            }
            return changes;
        }

        /** COURSES behind the next MICHAELMAS, were the QUARREL now so great. */
        int coursesNext(int wall, int quarrel) {
            return coursesFor(grown(wall, quarrel, street.now.courses[wall], street.weeksToMichaelmas()));
        }

        int giftFor(int wall, int h) {
            // only a square is ever the LEAST GIFT, for what lies between two does no more than the lower
            for (int root = 0; root <= MOST_GIFT_ROOT; root++) {
                if (coursesNext(wall, asQuarrel(street.now.quarrels[wall] - root)) <= h) {
                    return root * root;
                }
            }
            return NONE;
        }

        void weighApologies() {
            for (int w = 0; w < street.walls(); w++) {
                int quarrel = street.now.quarrels[w];
                plain[w] = coursesNext(w, quarrel);
                moved[w] = coursesNext(w, lessAThird(quarrel));
            }
        }

        void weighGossip(int n) {
            for (int w = 0; w < street.walls(); w++) {
                int quarrel = street.now.quarrels[w];
                plain[w] = coursesNext(w, quarrel);
                moved[w] = coursesNext(w, asQuarrel(quarrel + n));
            }
        }

        /** All COURSES behind the next MICHAELMAS, if over the WALLS of a set is done what was weighed. */
        int coursesWith(int set) {
            int all = 0;
            for (int w = 0; w < street.walls(); w++) {
                all += (set >> w & 1) == 1 ? moved[w] : plain[w];
            }
            return all;
        }

        int bestApologies(int m) {
            int open = street.openToApology();
            int best = 0;
            int fewest = coursesWith(0);
            for (int set = 1; set < 1 << street.walls(); set++) {
                if ((set & ~open) != 0 || Integer.bitCount(set) > m) {
                    continue;
                }
                int all = coursesWith(set);
                // sets come rising: of like ones with as few WALLS the least came first
                if (all < fewest || all == fewest && Integer.bitCount(set) < Integer.bitCount(best)) {
                    best = set;
                    fewest = all;
                }
            }
            return best;
        }

        int bestGossip() {
            int best = NONE;
            int most = -1;
            for (int w = 0; w < street.walls(); w++) {
                int all = coursesWith(1 << w);
                if (all > most) {
                    best = w;
                    most = all;
                }
            }
            return best;
        }

        int chanceToStand(int n) {
            int parts = MILLION;
            for (int k = 0; k < n; k++) {
                for (int w = 0; w < street.walls(); w++) {
                    int height = street.now.courses[w];
                    if (height >= COURSES_THAT_MAY_FALL) {
                        parts = parts * (100 - height) / 100;
                    }
                }
            }
            return parts;
        }

        int howManyFit(int wall, Sheet row, int i, int n) {
            int many = 0;
            for (int quarrel = 0; quarrel <= GREATEST_QUARREL; quarrel++) {
                if (fits(wall, quarrel, row, i, n)) {
                    many++;
                }
            }
            return many;
        }

        int leastThatFits(int wall, Sheet row, int i, int n) {
            for (int quarrel = 0; quarrel <= GREATEST_QUARREL; quarrel++) {
                if (fits(wall, quarrel, row, i, n)) {
                    return quarrel;
                }
            }
            return NONE;
        }

        /** The caller has looked that the row has the n items from i on. */
        boolean fits(int wall, int quarrel, Sheet row, int i, int n) {
            int great = quarrel;
            int height = street.now.courses[wall];
            int toGo = street.weeksToMichaelmas();
            for (int m = 0; m < n; m++) {
                great = grown(wall, great, height, toGo);
                height = coursesFor(great);
                if (row.items[i + m] != height) {
                    return false;
                }
                toGo = street.year;
            }
            return true;
        }
    }

    /** THE TAPE, and the STREET that was last read from it: a text with a FAULT must not touch the other. */
    private static final class Tape {
        final char[] letters = new char[MOST_LETTERS];
        int length = 0;
        final int[] kinds = new int[MOST_GARDENS];
        final int[] noises = new int[MOST_GARDENS];
        final int[] quarrels = new int[MOST_WALLS];
        int gardens = 0;
        int year = LEAST_YEAR;
        /** Where the reading is; behind a part that was refused, the place of the FAULT. */
        int at = 0;

        /** The caller has looked that there is room. */
        int write(char letter) {
            letters[length] = letter;
            length++;
            return length;
        }

        /** How many GARDENS, or a FAULT. */
        int parse() {
            at = 0;
            gardens = 0;
            boolean goesOn = readYear() && readSign(';');
            while (goesOn && gardens < MOST_GARDENS && readOwner()) {
                gardens++;
                if (atEnd()) {
                    return gardens;
                }
                // the sixth is the last one whatever comes: nothing can stand behind it
                goesOn = gardens < MOST_GARDENS && readQuarrel() && readSign(',');
            }
            return FIRST_FAULT - at;
        }

        boolean atEnd() {
            while (at < length && letters[at] == ' ') {
                at++;
            }
            return at >= length;
        }

        boolean isDigit() {
            return at < length && letters[at] >= '0' && letters[at] <= '9';
        }

        /** The next digit behind blanks; -1, and at stays with what stands in its place. */
        int readDigit() {
            if (atEnd() || !isDigit()) {
                return -1;
            }
            int digit = letters[at] - '0';
            at++;
            return digit;
        }

        boolean readYear() {
            int number = readDigit();
            if (number < 0) {
                return false;
            }
            int first = at - 1;
            // a blank ends a number, so none is passed over here
            if (isDigit()) {
                number = 10 * number + letters[at] - '0';
                at++;
            }
            if (!within(number, LEAST_YEAR, MOST_YEAR)) {
                at = first;
                return false;
            }
            year = number;
            return true;
        }

        boolean readSign(char sign) {
            if (atEnd() || letters[at] != sign) {
                return false;
            }
            at++;
            return true;
        }

        boolean readOwner() {
            int kind = atEnd() ? -1 : KIND_LETTERS.indexOf(letters[at]);
            if (kind < 0) {
                return false;
            }
            at++;
            int noise = readDigit();
            if (noise < 0) {
                return false;
            }
            kinds[gardens] = kind;
            noises[gardens] = noise;
            return true;
        }

        boolean readQuarrel() {
            int tens = readDigit();
            if (tens < 0) {
                return false;
            }
            int ones = readDigit();
            if (ones < 0) {
                return false;
            }
            quarrels[gardens - 1] = 10 * tens + ones;
            return true;
        }
    }

    /** A SHEET: nothing, or a row of a LANE, whose items are held as longs whatever the LANE. */
    private static final class Sheet {
        final long[] items = new long[MOST_ITEMS];
        boolean held = false;
        int lane = BYTES;
        int length = 0;

        void renew(int newLane, int n) {
            held = true;
            lane = newLane;
            length = n;
            for (int k = 0; k < MOST_ITEMS; k++) {
                items[k] = 0;
            }
        }

        boolean has(int i, int n) {
            return i >= 0 && n >= 0 && i <= length - n;
        }

        /** Why n items from i on can't be taken as of a LANE; 0: they can. */
        int refusal(int wantedLane, int i, int n) {
            if (!held) {
                return NULL;
            }
            if (lane != wantedLane) {
                return CAST;
            }
            return has(i, n) ? 0 : INDEX;
        }

        void put(int i, long v) {
            switch (lane) {
                case BYTES: items[i] = (byte) v; break;
                case SHORTS: items[i] = (short) v; break;
                case INTS: items[i] = (int) v; break;
                default: items[i] = v; break;
            }
        }
    }
}
