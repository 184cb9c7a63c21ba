import java.util.ArrayList;
import java.util.List;
import java.util.Random;

/** Runs of calls by chance (the same ones each time), each answer held against the plain Model. */
public final class ModelTest {
    private static final int RUNS = 1500;
    private static final int CALLS = 512;
    private static final int MOST_CALLS_AT_ONCE = 12;
    private static final int[] EDGES = {Integer.MIN_VALUE, -5, -4, -2, -1, 0, 1, 60, 101, 1000, Integer.MAX_VALUE};

    private final Random chance;
    private final QuarrelWalls x = new QuarrelWalls();
    private final Model m = new Model();
    private final List<String> calls = new ArrayList<>();
    private final Due due;
    private String text = "";

    private ModelTest(long seed, Due due) {
        chance = new Random(seed);
        this.due = due;
    }

    public static void main(String[] args) {
        Due due = new Due();
        for (int run = 0; run < RUNS && due.wrong() == 0; run++) {
            new ModelTest(run, due).run(run % 3 != 0, run % 10 == 0);
        }
        due.end();
    }

    /** late: first of all the WEEK goes to near 9999, the last one. */
    private void run(boolean street, boolean late) {
        if (street) {
            text = validText();
        }
        while (calls.size() < CALLS - MOST_CALLS_AT_ONCE && due.wrong() == 0) {
            if (!text.isEmpty()) {
                typeOn();
            } else if (late && m.count(1) < 9999 - 60) {
                int n = 50 + chance.nextInt(3);
                due("weeks(" + n + ")", x.weeks(n), m.weeks(n));
            } else {
                one(late ? withoutAStreet() : chance.nextInt(32));
            }
        }
        if (due.wrong() > 0) {
            System.out.println(String.join("\n", calls));
        }
    }

    private void typeOn() {
        int letter = text.charAt(0);
        text = text.substring(1);
        due("type(" + letter + ")", x.type(letter), m.type(letter));
        if (text.isEmpty()) {
            due("street()", x.street(), m.street());
        }
    }

    /** A STREET would bring the WEEK back to 0. */
    private int withoutAStreet() {
        int call = chance.nextInt(31);
        return call == 6 ? 31 : call;
    }

    private void due(String call, int got, int want) {
        calls.add(call + " " + got);
        due.due(call, got, want);
    }

    /** A number mostly within its bounds, at times at their edges or far outside. */
    private int near(int low, int high) {
        int how = chance.nextInt(40);
        if (how == 0) {
            return low - 1;
        }
        if (how == 1) {
            return high + 1;
        }
        if (how == 2) {
            return EDGES[chance.nextInt(EDGES.length)];
        }
        if (how < 6) {
            return how == 3 ? low : high;
        }
        return low + chance.nextInt(high - low + 1);
    }

    private int aWall() {
        return near(0, Math.max(0, m.count(0) - 2));
    }

    private int aGarden() {
        return near(0, Math.max(0, m.count(0) - 1));
    }

    private String validText() {
        StringBuilder b = new StringBuilder();
        b.append(2 + chance.nextInt(chance.nextBoolean() ? 6 : 51)).append(';');
        int gardens = 1 + chance.nextInt(6);
        for (int g = 0; g < gardens; g++) {
            b.append("psmda".charAt(chance.nextInt(5))).append(chance.nextInt(10));
            if (g < gardens - 1) {
                b.append(chance.nextInt(10)).append(chance.nextInt(10)).append(',');
            }
        }
        return b.toString();
    }

    private String someText() {
        StringBuilder b = new StringBuilder(validText());
        int changes = chance.nextInt(4);
        for (int k = 0; k < changes; k++) {
            int at = chance.nextInt(b.length() + 1);
            char letter = " 0123459;,psmda".charAt(chance.nextInt(15));
            switch (chance.nextInt(4)) {
                case 0 -> b.insert(at, letter);
                case 1 -> b.insert(at, ' ');
                case 2 -> b.deleteCharAt(Math.min(at, b.length() - 1));
                default -> b.setLength(at);
            }
            if (b.length() == 0) {
                b.append(letter);
            }
        }
        return b.toString();
    }

    private void one(int call) {
        switch (call) {
            case 0, 1, 2, 3, 4, 5, 6, 7, 8 -> gardens(call);
            case 9, 10, 11, 12, 13, 14, 15, 16, 17, 18 -> done(call);
            case 19, 20, 21, 22, 23, 24, 25 -> foretold(call);
            default -> sheets(call);
        }
    }

    private void gardens(int call) {
        int a = aGarden();
        int what = near(0, 9);
        switch (call) {
            case 0 -> {
                int kind = near(0, 4);
                due("garden(" + kind + ", " + what + ")", x.garden(kind, what), m.garden(kind, what));
            }
            case 1 -> due("of(" + a + ", " + what + ")", x.of(a, what), m.of(a, what));
            case 2, 3 -> {
                int w = aWall();
                int of = near(0, 3);
                due("wall(" + w + ", " + of + ")", x.wall(w, of), m.wall(w, of));
            }
            case 4 -> due("noise(" + a + ", " + what + ")", x.noise(a, what), m.noise(a, what));
            case 5 -> {
                int of = near(0, 1);
                int v = of == 0 ? near(2, chance.nextBoolean() ? 6 : 52) : near(0, 9);
                due("rule(" + of + ", " + v + ")", x.rule(of, v), m.rule(of, v));
            }
            case 6 -> {
                if (chance.nextInt(8) == 0) {
                    text = someText();
                } else {
                    int letter = near(32, 126);
                    due("type(" + letter + ")", x.type(letter), m.type(letter));
                }
            }
            default -> due("count(" + what + ")", x.count(what), m.count(what));
        }
    }

    private void done(int call) {
        int w = aWall();
        int n = near(1, chance.nextBoolean() ? 9 : 52);
        switch (call) {
            case 9 -> due("weeks(" + n + ")", x.weeks(n), m.weeks(n));
            case 10 -> due("sorry(" + w + ")", x.sorry(w), m.sorry(w));
            case 11 -> {
                int by = near(0, 1);
                int v = near(1, 400);
                due("gift(" + w + ", " + by + ", " + v + ")", x.gift(w, by, v), m.gift(w, by, v));
            }
            case 12 -> due("gossip(" + w + ", " + n + ")", x.gossip(w, n), m.gossip(w, n));
            case 13 -> due("lovers(" + w + ")", x.lovers(w), m.lovers(w));
            case 14 -> due("falls(" + w + ")", x.falls(w), m.falls(w));
            case 15, 16 -> due("drift(" + n + ")", x.drift(n), m.drift(n));
            case 17 -> due("undo()", x.undo(), m.undo());
            default -> {
                int v = chance.nextInt();
                due("seed(" + v + ")", x.seed(v), m.seed(v));
            }
        }
    }

    private void foretold(int call) {
        int w = aWall();
        int what = near(0, 1);
        switch (call) {
            case 19 -> {
                int of = chance.nextBoolean() ? w : -4;
                int n = near(0, 104);
                due("ahead(" + of + ", " + n + ", " + what + ")", x.ahead(of, n, what), m.ahead(of, n, what));
            }
            case 20 -> due("settles()", x.settles(), m.settles());
            case 21 -> {
                int h = near(0, 19);
                due("leastGift(" + w + ", " + h + ")", x.leastGift(w, h), m.leastGift(w, h));
            }
            case 22 -> {
                int most = near(0, 5);
                due("sorries(" + most + ", " + what + ")", x.sorries(most, what), m.sorries(most, what));
            }
            case 23 -> {
                int n = near(1, 9);
                due("stir(" + n + ", " + what + ")", x.stir(n, what), m.stir(n, what));
            }
            case 24 -> {
                int n = near(0, 52);
                due("holds(" + n + ")", x.holds(n), m.holds(n));
            }
            default -> {
                if (chance.nextInt(3) == 0) {
                    due("image()", x.image(), m.image());
                } else if (chance.nextInt(3) == 0) {
                    due("restore()", x.restore(), m.restore());
                }
            }
        }
    }

    private void sheets(int call) {
        int s = near(0, 3);
        int lane = near(0, chance.nextInt(3));
        int i = near(0, chance.nextBoolean() ? 3 : 24);
        switch (call) {
            case 26, 27 -> seen(s, lane);
            case 28 -> {
                int w = aWall();
                int n = near(1, chance.nextBoolean() ? 4 : 24);
                due("film(" + w + ", " + n + ", " + s + ", " + lane + ", " + i + ")", x.film(w, n, s, lane, i), m.film(w, n, s, lane, i));
            }
            case 29 -> {
                int n = near(0, 24);
                if (chance.nextInt(6) == 0) {
                    due("drop(" + s + ")", x.drop(s), m.drop(s));
                } else {
                    due("sheet(" + s + ", " + lane + ", " + n + ")", x.sheet(s, lane, n), m.sheet(s, lane, n));
                }
            }
            case 30 -> {
                long v = chance.nextInt(3) == 0 ? chance.nextLong() : near(0, 19) + (chance.nextInt(4) == 0 ? 1L << 8 * (1 + chance.nextInt(7)) : 0);
                due("item(" + s + ", " + lane + ", " + i + ", " + v + ")", x.item(s, lane, i, v), m.item(s, lane, i, v));
            }
            default -> {
                int to = near(0, 3);
                int j = near(0, chance.nextBoolean() ? 3 : 24);
                int n = near(0, chance.nextBoolean() ? 6 : 24);
                due("copy(" + s + ", " + i + ", " + to + ", " + j + ", " + n + ")", x.copy(s, i, to, j, n), m.copy(s, i, to, j, n));
            }
        }
    }

    /** Rows that might be true: what will be, with a slip now and then, put where it is then looked for. */
    private void seen(int s, int lane) {
        int w = aWall();
        int n = near(1, 6);
        int i = near(0, 18);
        int toGo = m.count(7);
        for (int k = 0; k < n && k < 6; k++) {
            int weeks = toGo + k * m.count(2);
            int courses = m.ahead(w, weeks, 0) + (chance.nextInt(12) == 0 ? 1 : 0);
            due("item(" + s + ", " + lane + ", " + (i + k) + ", " + courses + ")", x.item(s, lane, i + k, courses), m.item(s, lane, i + k, courses));
        }
        for (int what = 0; what < 2; what++) {
            int of = chance.nextInt(20) == 0 ? 2 : what;
            due("seen(" + w + ", " + s + ", " + lane + ", " + i + ", " + n + ", " + of + ")", x.seen(w, s, lane, i, n, of), m.seen(w, s, lane, i, n, of));
        }
    }
}
