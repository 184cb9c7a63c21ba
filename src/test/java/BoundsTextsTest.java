/** Promises 7 and 8, and "A STREET is a TEXT": each sentence that names a boundary has a test of its own. */
public final class BoundsTextsTest {
    private static final Due due = new Due();
    private static final Edge RICH = new Edge(due, Whole::rich);
    private static final Edge NEW = new Edge(due, QuarrelWalls::new);
    private static final String SIX = "6;p730,s460,m915,d245,a088,p3";

    public static void main(String[] args) {
        aLetter();
        sixtyLetters();
        theTapeIsEmptyThen();
        theYear();
        aNumberHasOneOrTwoDigits();
        blanksEndANumber();
        theSignBehindTheYear();
        oneToSixGardens();
        theKinds();
        theNoiseIsADigit();
        theQuarrelIsTwoDigits();
        commasBetween();
        theEnd();
        eachPlace();
        blanksCountForNothing();
        inPlaceOfAll();
        easeAndDrawStay();
        aFaultLeavesAllElse();
        due.end();
    }

    private static void street(String text, int want) {
        due.due("'" + text + "'", Due.street(new QuarrelWalls(), text), want);
    }

    private static void fault(String text, int place) {
        street(text, -20 - place);
    }

    /** "BAD: not 32 .. 126". */
    private static void aLetter() {
        NEW.within("a letter", (x, v) -> x.type(v), 32, 126, 1, 1);
        RICH.within("a letter more", (x, v) -> x.type(v), 32, 126, 3, 3);
        int[] wrong = {0, -32, 10, 9, 128, 255, 256 + 50, 65536 + 50};
        for (int letter : wrong) {
            NEW.refuses("no letter", (x, v) -> x.type(v), letter, -1);
        }
        for (int letter = 32; letter <= 126; letter++) {
            NEW.answers("letter", (x, v) -> x.type(v), letter, 1);
        }
    }

    private static QuarrelWalls typed(String text) {
        QuarrelWalls x = new QuarrelWalls();
        for (int k = 0; k < text.length(); k++) {
            due.due("letter " + k, x.type(text.charAt(k)), k + 1);
        }
        return x;
    }

    /** "One letter more behind THE TAPE: how many it has. BAD; FULL: 60." */
    private static void sixtyLetters() {
        String blanks = " ".repeat(60 - SIX.length());
        QuarrelWalls x = typed(SIX + blanks);
        due.due("the 61st letter", x.type('9'), -3);
        due.due("and once more", x.type('9'), -3);
        due.due("BAD is named ahead of FULL", x.type(31), -1);
        due.due("BAD is named ahead of FULL", x.type(127), -1);
        due.due("THE TAPE is as it was", x.street(), 6);
        QuarrelWalls y = typed(blanks + SIX);
        due.due("the 61st letter would be the sixth QUARREL", y.type('9'), -3);
        due.due("it is not there", y.street(), 6);
        QuarrelWalls z = typed(" ".repeat(58) + "5;");
        due.due("FULL", z.type('p'), -3);
        due.due("the end is at 60", z.street(), -80);
    }

    /** "THE TAPE, which is empty then": behind a STREET and behind a FAULT. */
    private static void theTapeIsEmptyThen() {
        QuarrelWalls x = new QuarrelWalls();
        due.due("an empty TAPE", x.street(), -20);
        due.due("a STREET", Due.street(x, "5;p3"), 1);
        due.due("empty", x.street(), -20);
        due.due("a FAULT", Due.street(x, "5;p3,"), -24);
        due.due("empty", x.street(), -20);
        due.due("one letter", x.type('5'), 1);
        due.due("no letters of earlier ones", x.street(), -21);
        QuarrelWalls full = typed(" ".repeat(60));
        due.due("a full one of blanks", full.street(), -80);
        due.due("has room again", full.type('5'), 1);
        due.due("for a STREET", Due.street(full, ";p3"), 1);
    }

    /** "a number 2 .. 52 (YEAR)"; "or of the number's first digit, if it is not as told". */
    private static void theYear() {
        for (int year = 0; year <= 99; year++) {
            QuarrelWalls x = new QuarrelWalls();
            boolean told = year >= 2 && year <= 52;
            due.due("YEAR " + year, Due.street(x, "  " + year + ";p3"), told ? 1 : -22);
            due.due("YEAR becomes " + year, x.count(2), told ? year : 12);
            if (year < 10) {
                due.due("YEAR 0" + year, Due.street(x, "0" + year + ";p3"), told ? 1 : -20);
            }
        }
        fault("1", 0);
        fault("53", 0);
        fault(" 53 x", 1);
        fault("00;p3", 0);
        fault("0;x", 0);
    }

    /** "Numbers have 1 or 2 digits". */
    private static void aNumberHasOneOrTwoDigits() {
        fault("120;p3", 2);
        fault("020;p3", 2);
        fault("002;p3", 0);
        fault("012;p3", 0);
        fault("530;p3", 0);
        fault("5200;p3", 2);
        fault(";p3", 0);
        fault("/;p3", 0);
        fault(":;p3", 0);
        fault("5/;p3", 1);
        fault("5:;p3", 1);
        fault("+5;p3", 0);
        fault("-5;p3", 0);
    }

    /** "blanks count for nothing, but end a number". */
    private static void blanksEndANumber() {
        street("5 ;p3", 1);
        street("52 ;p3", 1);
        fault("5 2;p3", 2);
        fault("5   2;p3", 4);
        fault("1 2;p3", 0);
        fault(" 1 2;p3", 1);
        fault("0 5;p3", 0);
        fault("12 0;p3", 3);
    }

    private static void theSignBehindTheYear() {
        fault("5", 1);
        fault("52", 2);
        fault("52  ", 4);
        fault("5,p3", 1);
        fault("5:p3", 1);
        fault("5 p3", 2);
        fault("5<p3", 1);
        fault("5;;p3", 2);
    }

    /** "1 to 6 GARDENS". */
    private static void oneToSixGardens() {
        fault("5;", 2);
        fault("5;   ", 5);
        StringBuilder text = new StringBuilder("5;p0");
        for (int gardens = 1; gardens <= 6; gardens++) {
            street(text.toString(), gardens);
            text.append("12,s3");
        }
        // the sixth is the last one, which has no QUARREL
        fault(text.toString(), 29);
        fault(SIX + "0", 29);
        fault(SIX + "  0", 31);
        fault(SIX + ",", 29);
        fault(SIX + "00,p0", 29);
        street(SIX + "   ", 6);
    }

    /** "p s m d a (KINDS in this order)". */
    private static void theKinds() {
        String kinds = "psmda";
        for (char letter = 33; letter <= 126; letter++) {
            int kind = kinds.indexOf(letter);
            QuarrelWalls x = new QuarrelWalls();
            due.due("KIND " + letter, Due.street(x, "5;" + letter + "3"), kind < 0 ? -22 : 1);
            due.due("KIND " + letter + " is", x.of(0, 0), kind < 0 ? -1 : kind);
            QuarrelWalls y = new QuarrelWalls();
            due.due("second KIND " + letter, Due.street(y, "5;p345," + letter + "3"), kind < 0 ? -27 : 2);
            due.due("second KIND " + letter + " is", y.of(1, 0), kind < 0 ? -1 : kind);
        }
    }

    /** "a digit (NOISE)". */
    private static void theNoiseIsADigit() {
        for (char letter = 33; letter <= 126; letter++) {
            boolean digit = letter >= '0' && letter <= '9';
            QuarrelWalls x = new QuarrelWalls();
            due.due("NOISE " + letter, Due.street(x, "5;a" + letter), digit ? 1 : -23);
            due.due("NOISE " + letter + " is", x.of(0, 1), digit ? letter - '0' : -1);
        }
        fault("5;p", 3);
        fault("5;p ", 4);
        fault("5;pp3", 3);
        fault("5;p-1", 3);
    }

    /** "and, but for the last one, the QUARREL with the next one: two digits". */
    private static void theQuarrelIsTwoDigits() {
        for (int quarrel = 0; quarrel <= 99; quarrel++) {
            QuarrelWalls x = new QuarrelWalls();
            due.due("QUARREL " + quarrel, Due.street(x, "5;p7" + quarrel / 10 + quarrel % 10 + ",s2"), 2);
            due.due("QUARREL is", x.wall(0, 1), quarrel);
            due.due("NOISE is", x.of(0, 1), 7);
        }
        for (char letter = 33; letter <= 126; letter++) {
            boolean digit = letter >= '0' && letter <= '9';
            street("5;p7" + letter + "0,s2", digit ? 2 : -24);
            street("5;p70" + letter + ",s2", digit ? 2 : -25);
        }
        fault("5;p7,s2", 4);
        fault("5;p71,s2", 5);
        fault("5;p7123,s2", 6);
        fault("5;p712,s23", 10);
        fault("5;p712,s234", 11);
        fault("5;p712,s2345", 11);
    }

    private static void commasBetween() {
        fault("5;,p3", 2);
        fault("5;p312,,s4", 7);
        fault("5;p312;s4", 6);
        fault("5;p312s4", 6);
        fault("5;p312 s4", 7);
        fault("5;p312,s4,", 9);
        fault("5;p312,s4;", 9);
        fault("5;p312,", 7);
    }

    /** "(the end: how many there are)", blanks among them. */
    private static void theEnd() {
        String text = "32;p345,s6";
        int[] whole = {5, 10};
        for (int length = 0; length <= text.length(); length++) {
            boolean street = length == whole[0] || length == whole[1];
            int gardens = length == whole[0] ? 1 : 2;
            street(text.substring(0, length), street ? gardens : -20 - length);
            street(text.substring(0, length) + "   ", street ? gardens : -20 - length - 3);
            String full = text.substring(0, length) + " ".repeat(60 - length);
            street(full, street ? gardens : -80);
        }
    }

    /** "-20 less the place of the first letter (behind blanks) that can't stand there". */
    private static void eachPlace() {
        for (int place = 0; place < SIX.length(); place++) {
            // YEAR 6 is a number of its own, so a blank behind it ends it
            String ahead = SIX.substring(0, place);
            fault(ahead + "~" + SIX.substring(place), place);
            fault(ahead + "   ~" + SIX.substring(place), place + 3);
            fault(" " + ahead + "   ~~", place + 4);
        }
        fault(SIX + "~", SIX.length());
        fault(" ".repeat(59) + "~", 59);
        fault(" ".repeat(59) + "1", 59);
        fault(" ".repeat(58) + "99", 58);
    }

    private static void blanksCountForNothing() {
        for (int place = 0; place <= SIX.length(); place++) {
            QuarrelWalls x = new QuarrelWalls();
            due.due("blanks at " + place, Due.street(x, SIX.substring(0, place) + "   " + SIX.substring(place)), 6);
            due.due("all QUARRELS", x.count(5), 238);
        }
        street("  5  ;  p  3  1  2  ,  s  4  ", 2);
        street(" ".repeat(56) + "5;p3", 1);
    }

    /** "in place of all GARDENS, of YEAR; WALLS of no COURSES, WEEK 0, no APOLOGIES, nobody PAID". */
    private static void inPlaceOfAll() {
        QuarrelWalls x = Due.of("2;a999,a999,a999,a999,a999,a9");
        x.weeks(9);
        for (int w = 0; w < 5; w++) {
            x.sorry(w);
        }
        due.due("8 may be UNDONE", x.count(9), 8);
        due.due("a STREET as long", Due.street(x, SIX), 6);
        int[] counts = {6, 0, 6, 1, 0, 238, 0, 6, 31, 0};
        for (int what = 0; what < 10; what++) {
            due.due("count(" + what + ")", x.count(what), counts[what]);
        }
        due.due("a STREET leaves nothing to be UNDONE", x.undo(), -4);
        for (int w = 0; w < 5; w++) {
            due.due("COURSES", x.wall(w, 0), 0);
            due.due("an APOLOGY may be made", x.wall(w, 3), 0);
        }
        x.weeks(6);
        due.due("a STREET of one", Due.street(x, "52;d1"), 1);
        due.due("no WALL", x.wall(0, 0), -1);
        due.due("no second GARDEN", x.of(1, 0), -1);
        due.due("nobody PAID", x.count(6), 0);
        due.due("WEEK 0", x.count(1), 0);
    }

    /** "(EASE, THE DRAW stay)". */
    private static void easeAndDrawStay() {
        QuarrelWalls x = new QuarrelWalls();
        x.rule(1, 9);
        x.seed(Integer.MAX_VALUE);
        due.due("a STREET", Due.street(x, "2;p3"), 1);
        due.due("EASE", x.count(3), 9);
        due.due("THE DRAW", x.seed(0), Integer.MAX_VALUE);
        x.rule(1, 0);
        due.due("a STREET", Due.street(x, "3;p3"), 1);
        due.due("EASE", x.count(3), 0);
        due.due("THE DRAW", x.seed(5), 0);
    }

    /** "A FAULT (all else stays)": a text that is a STREET but for its last letter among them. */
    private static void aFaultLeavesAllElse() {
        String[] texts = {"", "x", "53;p3", "5;", "5;p9,", "52;a999,a999,a999,a999,a999,a9,", "52;d999,d9 x"};
        for (String text : texts) {
            QuarrelWalls x = Whole.rich();
            QuarrelWalls y = Whole.rich();
            // of both THE TAPE is empty then, but "7;" stood on it
            x.street();
            y.street();
            due.holds("'" + text + "' is a FAULT", Due.street(x, text) <= -20);
            due.holds("'" + text + "' leaves all else", Whole.of(x).equals(Whole.of(y)));
        }
        RICH.answers("a FAULT of what was typed", (x, v) -> x.street(), 0, -22);
    }
}
