import java.util.ArrayList;
import java.util.List;
import java.util.function.Supplier;

/**
 * Promises 2 to 32: which parts of an object a call changes, and that all the others stay ("Nothing is promised
 * beyond the answers and state changes described"; "What is refused changes nothing"; "nothing is changed").
 */
public final class StaysTest {
    private static final Due due = new Due();
    private static final int[] FAR = {Integer.MIN_VALUE, -1, 99, Integer.MAX_VALUE};

    private interface Call {
        int on(QuarrelWalls x);
    }

    public static void main(String[] args) {
        theStreetItself();
        whatIsTold();
        aNewGarden();
        aStreet();
        aFault();
        weeks();
        steps();
        drifts();
        undone();
        anImage();
        restored();
        sheets();
        asking();
        refusedByTheStreet();
        refusedByTheSheets();
        refusedForTheyAreFull();
        due.end();
    }

    /** Five GARDENS, WEEK 5 of a YEAR of 4, EASE 2, over WALL 1 an APOLOGY in 2 WEEKS, 9 steps, an IMAGE, three rows, a text. */
    private static QuarrelWalls street() {
        QuarrelWalls x = Due.of("5;p380,s570,d6");
        x.gossip(0, 3);
        x.image();
        Due.street(x, "4;p512,s399,m460,d245,a6");
        x.rule(1, 2);
        x.weeks(4);
        x.gossip(3, 1);
        x.lovers(1);
        x.sorry(1);
        x.weeks(1);
        x.gift(0, 1, 9);
        x.seed(4711);
        Whole.rows(x);
        for (char letter : "9;p5".toCharArray()) {
            x.type(letter);
        }
        return x;
    }

    private static Supplier<QuarrelWalls> behind(Call call) {
        return () -> {
            QuarrelWalls x = street();
            call.on(x);
            return x;
        };
    }

    /** What a call answers, and what is changed by it of all that stands now; the IMAGE stays. */
    private static Parts changes(String name, Call call, int answer, String changed) {
        due.due(name, call.on(street()), answer);
        Parts was = new Parts(StaysTest::street);
        Parts is = new Parts(behind(call));
        same(name + " changes", is.changedFrom(was), changed);
        due.holds(name + ": the IMAGE stays", is.image.equals(was.image) && is.imagePast.equals(was.imagePast));
        return is;
    }

    private static void same(String what, Object got, Object want) {
        due.holds(what + "\n  got " + got + "\n  due " + want, got.equals(want));
    }

    /** What is no step, and leaves what may be UNDONE. */
    private static void noStep(String name, Call call, int answer, String changed) {
        Parts is = changes(name, call, answer, changed);
        same(name + ": what may be UNDONE stays", is.past, new Parts(StaysTest::street).past);
    }

    /** What may be UNDONE: it is one more, the oldest is lost. */
    private static void step(String name, Call call, int answer, String changed) {
        Parts is = changes(name, call, answer, changed);
        Parts was = new Parts(StaysTest::street);
        List<String> known = new ArrayList<>(was.past.subList(0, 7));
        known.add(0, was.standing);
        same(name + ": what may be UNDONE", is.past, known);
    }

    /** By hand: 4 WEEKS of 1, 0, -2, -1 more, MICHAELMAS, then a WEEK of 1, 9, 0, 1 more; the GIFT is 3 less. */
    private static void theStreetItself() {
        Parts is = new Parts(StaysTest::street);
        same("what stands", is.standing, "week 5 draw 4711 paid 6 paid 53 paid 58 paid 36 paid 16"
                + " wall 3 14 0 wall 18 75 2 wall 10 52 0 wall 8 43 0");
        same("ahead of the GIFT", is.past.get(0), "week 5 draw 1 paid 6 paid 44 paid 58 paid 36 paid 16"
                + " wall 3 17 0 wall 18 75 2 wall 10 52 0 wall 8 43 0");
        same("ahead of the second WEEK", is.past.get(7), "week 1 draw 1 paid 0 paid 0 paid 0 paid 0 paid 0"
                + " wall 0 13 0 wall 0 99 0 wall 0 58 0 wall 0 44 0");
        due.due("8 are known", is.past.size(), 8);
        same("THE TAPE", is.now.get("tape"), "4 letters, read as 1 of year 9, the first one 0 5");
        same("SHEET 0", is.now.get("sheet 0"), "bytes 3 4 5 6 7, 5 items");
        same("SHEET 1", is.now.get("sheet 1"), "ints 19 18 17 16 15 0 0 0, 8 items");
        same("SHEET 2", is.now.get("sheet 2"), "nothing, -11 items");
        same("SHEET 3", is.now.get("sheet 3"), "longs, 0 items");
        same("the IMAGE", is.image.toString(), "{restore=1, gardens=3, week=0, year=5, ease=1, draw=1, known=1, kind 0=0, noise 0=3, paid 0=0,"
                + " kind 1=1, noise 1=5, paid 1=0, kind 2=3, noise 2=6, paid 2=0,"
                + " courses 0=0, quarrel 0=83, wait 0=0, courses 1=0, quarrel 1=70, wait 1=0}");
        same("UNDONE then", is.imagePast.toString(), "[week 0 draw 1 paid 0 paid 0 paid 0 wall 0 80 0 wall 0 70 0]");
    }

    /** "NOISE becomes v", "0 YEAR, 1 EASE becomes v", "One letter more", "THE DRAW becomes v". */
    private static void whatIsTold() {
        noStep("noise(2, 9)", x -> x.noise(2, 9), 4, "noise 2 4>9");
        noStep("noise(0, 5), as it is", x -> x.noise(0, 5), 5, "");
        noStep("rule(0, 2)", x -> x.rule(0, 2), 4, "year 4>2");
        noStep("rule(0, 5), a multiple of which it is", x -> x.rule(0, 5), 4, "year 4>5");
        noStep("rule(1, 0)", x -> x.rule(1, 0), 2, "ease 2>0");
        noStep("seed(5)", x -> x.seed(5), 4711, "draw 4711>5");
        noStep("type(' ')", x -> x.type(' '), 5,
                "tape 4 letters, read as 1 of year 9, the first one 0 5>5 letters, read as 1 of year 9, the first one 0 5");
        noStep("type('x')", x -> x.type('x'), 5,
                "tape 4 letters, read as 1 of year 9, the first one 0 5>5 letters, read as -24 of year 4, the first one 0 5");
    }

    /** "A GARDEN behind the last one, a WALL of no COURSES, no QUARREL between"; nothing is left to be UNDONE. */
    private static void aNewGarden() {
        Parts is = changes("garden(4, 7)", x -> x.garden(4, 7), 5, "gardens 5>6, known 8>0, "
                + "kind 5 ->4, noise 5 ->7, paid 5 ->0, courses 4 ->0, quarrel 4 ->0, wait 4 ->0");
        due.due("nothing is left", is.past.size(), 0);
    }

    /** "in place of all GARDENS, of YEAR; WALLS of no COURSES, WEEK 0, no APOLOGIES, nobody PAID (EASE, THE DRAW stay)". */
    private static void aStreet() {
        Parts is = changes("street()", x -> x.street(), 1, "gardens 5>1, week 5>0, year 4>9, known 8>0, paid 0 6>0, "
                + "kind 1 1>-, noise 1 3>-, paid 1 53>-, kind 2 2>-, noise 2 4>-, paid 2 58>-, "
                + "kind 3 3>-, noise 3 2>-, paid 3 36>-, kind 4 4>-, noise 4 6>-, paid 4 16>-, "
                + "courses 0 3>-, quarrel 0 14>-, wait 0 0>-, courses 1 18>-, quarrel 1 75>-, wait 1 2>-, "
                + "courses 2 10>-, quarrel 2 52>-, wait 2 0>-, courses 3 8>-, quarrel 3 43>-, wait 3 0>-, "
                + "tape 4 letters, read as 1 of year 9, the first one 0 5>0 letters, read as -21 of year 9, the first one 0 5");
        due.due("nothing is left", is.past.size(), 0);
        changes("a STREET as long", x -> {
            x.street();
            return Due.street(x, "52;a911,d822,m733,s644,p5");
        }, 5, "week 5>0, year 4>52, known 8>0, kind 0 0>4, noise 0 5>9, paid 0 6>0, kind 1 1>3, noise 1 3>8, paid 1 53>0, "
                + "noise 2 4>7, paid 2 58>0, kind 3 3>1, noise 3 2>6, paid 3 36>0, kind 4 4>0, noise 4 6>5, paid 4 16>0, "
                + "courses 0 3>0, quarrel 0 14>11, courses 1 18>0, quarrel 1 75>22, wait 1 2>0, "
                + "courses 2 10>0, quarrel 2 52>33, courses 3 8>0, quarrel 3 43>44, "
                + "tape 4 letters, read as 1 of year 9, the first one 0 5>0 letters, read as -21 of year 52, the first one 4 9");
    }

    /** "THE TAPE, which is empty then"; "A FAULT (all else stays)". */
    private static void aFault() {
        String[] more = {"x", "66", "66,", "66,p", "66,p9,", "66,p999,a911,d822,m733,s644,p5"};
        int[] faults = {-24, -26, -27, -28, -29, -49};
        for (int k = 0; k < more.length; k++) {
            String text = more[k];
            noStep("9;p5" + text, x -> Due.street(x, text), faults[k],
                    "tape 4 letters, read as 1 of year 9, the first one 0 5>0 letters, read as -21 of year 4, the first one 0 5");
        }
    }

    /** A WEEK changes QUARRELS, MICHAELMAS also COURSES and what is PAID; THE DRAW stays. */
    private static void weeks() {
        step("weeks(1)", x -> x.weeks(1), 39, "week 5>6, quarrel 0 14>15, quarrel 1 75>84, wait 1 2>1, quarrel 3 43>44");
        Parts is = changes("weeks(3)", x -> x.weeks(3), 41, "week 5>8, paid 1 53>55, paid 2 58>60, paid 3 36>38, paid 4 16>18, "
                + "quarrel 0 14>17, courses 1 18>19, quarrel 1 75>99, wait 1 2>0, courses 3 8>9, quarrel 3 43>46");
        same("WEEK 7 may come back", is.past.get(0), new Parts(behind(x -> x.weeks(2))).standing);
        same("WEEK 5 may come back", is.past.get(2), new Parts(StaysTest::street).standing);
        same("what was ahead of it", is.past.subList(3, 8), new Parts(StaysTest::street).past.subList(0, 5));
    }

    private static void steps() {
        step("sorry(0)", x -> x.sorry(0), 10, "quarrel 0 14>10, wait 0 0>3");
        step("sorry(3)", x -> x.sorry(3), 29, "quarrel 3 43>29, wait 3 0>3");
        step("gift(1, 0, 400)", x -> x.gift(1, 0, 400), 55, "paid 1 53>453, quarrel 1 75>55");
        step("gift(1, 1, 24)", x -> x.gift(1, 1, 24), 71, "paid 2 58>82, quarrel 1 75>71");
        step("gift(0, 0, 400)", x -> x.gift(0, 0, 400), 0, "paid 0 6>406, quarrel 0 14>0");
        step("gossip(1, 9)", x -> x.gossip(1, 9), 84, "quarrel 1 75>84");
        step("lovers(1)", x -> x.lovers(1), 17, "courses 1 18>17");
        step("falls(1)", x -> x.falls(1), 18, "courses 1 18>0, quarrel 1 75>80");
        step("falls(3)", x -> x.falls(3), 8, "courses 3 8>0, quarrel 3 43>48");
    }

    /** As a WEEK, and THE DRAW for WALL 1, the only one of 12 COURSES or more: 38 behind 1, 13 behind 377401575. */
    private static void drifts() {
        Call stands = x -> {
            x.seed(1);
            return x.drift(1);
        };
        changes("a DRIFT by 1", stands, 0, "week 5>6, draw 4711>1103527590, quarrel 0 14>15, quarrel 1 75>84, wait 1 2>1, quarrel 3 43>44");
        Call falls = x -> {
            x.seed(377401575);
            return x.drift(1);
        };
        Parts is = changes("a DRIFT by 377401575", falls, 1, "week 5>6, draw 4711>662824084, quarrel 0 14>15, "
                + "courses 1 18>0, quarrel 1 75>89, wait 1 2>1, quarrel 3 43>44");
        Parts was = new Parts(behind(x -> x.seed(377401575)));
        same("one step, the fall with it", is.past.get(0), was.standing);
        same("and the others", is.past.subList(1, 8), was.past.subList(0, 7));
    }

    /** "QUARRELS, COURSES, what all PAID, APOLOGIES, the WEEK, THE DRAW are as ahead of it, whatever was told since". */
    private static void undone() {
        Parts was = new Parts(StaysTest::street);
        Parts is = changes("undo()", x -> x.undo(), 7, "draw 4711>1, known 8>7, paid 1 53>44, quarrel 0 14>17");
        same("the others may be UNDONE", is.past, was.past.subList(1, 8));
        is = changes("undo() twice", x -> {
            x.undo();
            return x.undo();
        }, 6, "week 5>4, draw 4711>1, known 8>6, paid 1 53>44, quarrel 0 14>16, quarrel 1 75>66, wait 1 2>3, quarrel 3 43>42");
        same("the others may be UNDONE", is.past, was.past.subList(2, 8));
        changes("undo() behind what was told", x -> {
            x.noise(2, 9);
            x.rule(0, 52);
            x.rule(1, 9);
            return x.undo();
        }, 7, "year 4>52, ease 2>9, draw 4711>1, known 8>7, paid 1 53>44, noise 2 4>9, quarrel 0 14>17");
    }

    /** "All but SHEETS, THE TAPE is kept as an IMAGE: 1." */
    private static void anImage() {
        due.due("image()", street().image(), 1);
        Parts was = new Parts(StaysTest::street);
        Parts is = new Parts(behind(x -> x.image()));
        same("image() changes", is.changedFrom(was), "");
        same("image(): what may be UNDONE stays", is.past, was.past);
        same("what may be UNDONE is kept", is.imagePast, was.past);
        for (String name : is.image.keySet()) {
            same("the IMAGE's " + name, is.image.get(name), was.now.getOrDefault(name, "1"));
        }
        due.due("GARDENS, WALLS, the rules, restore", is.image.size(), 34);
    }

    /** "All is as it was then: 1."; SHEETS, THE TAPE, the IMAGE stay. */
    private static void restored() {
        due.due("restore()", street().restore(), 1);
        Parts was = new Parts(StaysTest::street);
        Parts is = new Parts(behind(x -> x.restore()));
        for (String name : was.image.keySet()) {
            if (!name.equals("restore")) {
                same("restored " + name, is.now.get(name), was.image.get(name));
            }
        }
        due.due("and nothing else", is.now.size(), was.image.size() - 1 + 5);
        same("what may be UNDONE then", is.past, was.imagePast);
        for (int s = 0; s < 4; s++) {
            same("SHEET " + s + " stays", is.now.get("sheet " + s), was.now.get("sheet " + s));
        }
        same("THE TAPE stays", is.now.get("tape"), was.now.get("tape"));
        due.holds("the IMAGE stays", is.image.equals(was.image) && is.imagePast.equals(was.imagePast));
    }

    private static void sheets() {
        noStep("sheet(2, 1, 3)", x -> x.sheet(2, 1, 3), 3, "sheet 2 nothing, -11 items>shorts 0 0 0, 3 items");
        noStep("sheet(0, 3, 1)", x -> x.sheet(0, 3, 1), 1, "sheet 0 bytes 3 4 5 6 7, 5 items>longs 0, 1 items");
        noStep("sheet(1, 2, 0)", x -> x.sheet(1, 2, 0), 0, "sheet 1 ints 19 18 17 16 15 0 0 0, 8 items>ints, 0 items");
        noStep("drop(0)", x -> x.drop(0), 5, "sheet 0 bytes 3 4 5 6 7, 5 items>nothing, -11 items");
        noStep("drop(3)", x -> x.drop(3), 0, "sheet 3 longs, 0 items>nothing, -11 items");
        noStep("item(0, 0, 4, 11)", x -> x.item(0, 0, 4, 11), 1, "sheet 0 bytes 3 4 5 6 7, 5 items>bytes 3 4 5 6 11, 5 items");
        noStep("film(0, 3, 0, 0, 1)", x -> x.film(0, 3, 0, 0, 1), 3, "sheet 0 bytes 3 4 5 6 7, 5 items>bytes 3 15 16 17 7, 5 items");
        noStep("film(1, 1, 0, 0, 0)", x -> x.film(1, 1, 0, 0, 0), 1, "sheet 0 bytes 3 4 5 6 7, 5 items>bytes ? 4 5 6 7, 5 items");
        noStep("copy(1, 0, 1, 1, 3)", x -> x.copy(1, 0, 1, 1, 3), 3,
                "sheet 1 ints 19 18 17 16 15 0 0 0, 8 items>ints 19 19 18 17 15 0 0 0, 8 items");
        noStep("copy(0, 0, 0, 0, 5)", x -> x.copy(0, 0, 0, 0, 5), 5, "");
        noStep("copy(3, 0, 3, 0, 0)", x -> x.copy(3, 0, 3, 0, 0), 0, "");
        noStep("copy to another", x -> {
            x.sheet(2, 2, 4);
            return x.copy(1, 2, 2, 1, 3);
        }, 3, "sheet 2 nothing, -11 items>ints 0 17 16 15, 4 items");
    }

    private static void asking() {
        for (int what = 0; what < 10; what++) {
            int of = what;
            stays("count " + what, x -> x.count(of));
            stays("of " + what, x -> x.of(1, of % 6));
            stays("wall " + what, x -> x.wall(1, of % 4));
        }
        for (int what = 0; what < 2; what++) {
            int of = what;
            stays("ahead", x -> x.ahead(1, 104, of));
            stays("ahead of all", x -> x.ahead(-4, 104, of));
            stays("sorries", x -> x.sorries(5, of));
            stays("stir", x -> x.stir(9, of));
            stays("seen", x -> x.seen(1, 1, 2, 0, 6, of));
            stays("seen", x -> x.seen(1, 0, 0, 4, 1, of));
        }
        stays("settles", x -> x.settles());
        stays("leastGift", x -> x.leastGift(1, 15));
        stays("leastGift, none", x -> x.leastGift(1, 0));
        stays("holds", x -> x.holds(52));
    }

    private static void stays(String name, Call call) {
        due.holds(name + " changes nothing", new Parts(behind(call)).same(new Parts(StaysTest::street)));
    }

    private static void refused(String name, Call call, int answer) {
        due.due(name, call.on(street()), answer);
        stays(name + ", which is refused,", call);
    }

    private static void refusedByTheStreet() {
        for (int far : FAR) {
            refused("garden's KIND " + far, x -> x.garden(far, 0), -1);
            refused("garden's NOISE " + far, x -> x.garden(0, far), -1);
            refused("noise's GARDEN " + far, x -> x.noise(far, 0), -1);
            refused("noise's v " + far, x -> x.noise(0, far), -1);
            refused("rule's YEAR " + far, x -> x.rule(0, far), -1);
            refused("rule's EASE " + far, x -> x.rule(1, far), -1);
            refused("weeks " + far, x -> x.weeks(far), -1);
            refused("drift " + far, x -> x.drift(far), -1);
            refused("sorry's WALL " + far, x -> x.sorry(far), -1);
            refused("gift's WALL " + far, x -> x.gift(far, 0, 1), -1);
            refused("gift's by " + far, x -> x.gift(0, far, 1), -1);
            refused("gossip's WALL " + far, x -> x.gossip(far, 1), -1);
            refused("gossip's n " + far, x -> x.gossip(0, far), -1);
            refused("lovers' WALL " + far, x -> x.lovers(far), -1);
            refused("falls' WALL " + far, x -> x.falls(far), -1);
        }
        refused("rule's what", x -> x.rule(2, 5), -1);
        refused("type(31)", x -> x.type(31), -1);
        refused("type(127)", x -> x.type(127), -1);
        refused("a GIFT of none", x -> x.gift(0, 0, 0), -1);
        refused("a GIFT of 401", x -> x.gift(0, 0, 401), -1);
        refused("seed(-1)", x -> x.seed(-1), -1);
        refused("an APOLOGY too soon", x -> x.sorry(1), -2);
    }

    private static void refusedByTheSheets() {
        for (int far : FAR) {
            refused("film's WALL " + far, x -> x.film(far, 1, 0, 0, 0), -1);
            refused("film's n " + far, x -> x.film(0, far, 0, 0, 0), -1);
            refused("film's item " + far, x -> x.film(0, 1, 0, 0, far), -13);
            refused("sheet's SHEET " + far, x -> x.sheet(far, 0, 1), -1);
            refused("sheet's LANE " + far, x -> x.sheet(0, far, 1), -1);
            refused("sheet's n " + far, x -> x.sheet(0, 0, far), far < 0 ? -14 : -1);
            refused("drop's SHEET " + far, x -> x.drop(far), -1);
            refused("item " + far, x -> x.item(0, 0, far, 9), -13);
            refused("copy from " + far, x -> x.copy(1, far, 1, 0, 1), -13);
            refused("copy to " + far, x -> x.copy(1, 0, 1, far, 1), -13);
            refused("copy of " + far, x -> x.copy(1, 0, 1, 0, far), -13);
        }
        refused("a film that goes beyond", x -> x.film(0, 3, 0, 0, 3), -13);
        refused("a film of another LANE", x -> x.film(0, 1, 0, 1, 0), -12);
        refused("a film to nothing", x -> x.film(0, 1, 2, 0, 0), -11);
        refused("drop of nothing", x -> x.drop(2), -11);
        refused("item of another LANE", x -> x.item(0, 2, 0, 9), -12);
        refused("item of nothing", x -> x.item(2, 2, 0, 9), -11);
        refused("copy of unlike LANES", x -> x.copy(0, 0, 1, 0, 1), -12);
        refused("copy of nothing", x -> x.copy(2, 0, 1, 0, 1), -11);
        refused("copy to nothing", x -> x.copy(1, 0, 2, 0, 1), -11);
        refused("copy beyond", x -> x.copy(1, 6, 1, 0, 3), -13);
    }

    /** Of a street whose WEEK is the last one, whose TAPE has no room, whose WALL 0 has no COURSES. */
    private static QuarrelWalls late() {
        QuarrelWalls x = Due.of("52;p055,s099,m9");
        for (int k = 0; k < 192; k++) {
            x.weeks(52);
        }
        x.image();
        x.weeks(14);
        x.falls(0);
        x.weeks(1);
        Whole.rows(x);
        for (char letter : ("4;d7" + " ".repeat(56)).toCharArray()) {
            x.type(letter);
        }
        return x;
    }

    /** Of six GARDENS, with WALLS of no COURSES. */
    private static QuarrelWalls six() {
        QuarrelWalls x = Due.of("2;p011,s022,m033,d044,a055,p6");
        x.gossip(0, 1);
        x.image();
        x.gossip(4, 1);
        return x;
    }

    private static void refusedForTheyAreFull() {
        full("weeks(1)", StaysTest::late, x -> x.weeks(1), -3);
        full("weeks(52)", StaysTest::late, x -> x.weeks(52), -3);
        full("drift(1)", StaysTest::late, x -> x.drift(1), -3);
        full("drift(52)", StaysTest::late, x -> x.drift(52), -3);
        full("type(' ')", StaysTest::late, x -> x.type(' '), -3);
        full("type('x')", StaysTest::late, x -> x.type('x'), -3);
        full("type(127)", StaysTest::late, x -> x.type(127), -1);
        full("garden", StaysTest::six, x -> x.garden(4, 9), -3);
        full("lovers", StaysTest::six, x -> x.lovers(2), -2);
        full("falls", StaysTest::six, x -> x.falls(2), -2);
        full("restore", QuarrelWalls::new, x -> x.restore(), -4);
        full("undo", QuarrelWalls::new, x -> x.undo(), -4);
    }

    private static void full(String name, Supplier<QuarrelWalls> made, Call call, int answer) {
        due.due(name, call.on(made.get()), answer);
        Parts is = new Parts(() -> {
            QuarrelWalls x = made.get();
            call.on(x);
            return x;
        });
        due.holds(name + ", which is refused, changes nothing", is.same(new Parts(made)));
    }
}
