/** Promises 7 and 8: type, street. */
public final class StreetTextTest {
    private static final Due due = new Due();

    public static void main(String[] args) {
        letters();
        faults();
        streets();
        aFaultChangesNothing();
        whatAStreetEnds();
        due.end();
    }

    private static void letters() {
        QuarrelWalls x = new QuarrelWalls();
        int[] wrong = {31, 127, -1, 0, 255, 65536 + 50, Integer.MIN_VALUE, Integer.MAX_VALUE};
        for (int letter : wrong) {
            due.due("type(" + letter + ")", x.type(letter), -1);
        }
        due.due("type(32)", x.type(32), 1);
        due.due("type(126)", x.type(126), 2);
        for (int k = 3; k <= 60; k++) {
            due.due("type " + k, x.type(32), k);
        }
        due.due("one too many", x.type(32), -3);
        due.due("one too many, bad", x.type(31), -1);
        due.due("the fault is in the second letter", x.street(), -21);
        due.due("the tape is empty then", x.type(32), 1);
        due.due("blanks alone", x.street(), -21);
        for (int k = 0; k < 60; k++) {
            x.type(32);
        }
        due.due("60 blanks", x.street(), -80);
        due.due("a number at the very end", Due.street(x, " ".repeat(59) + "5"), -80);
        due.due("a street to the very end", Due.street(x, " ".repeat(56) + "5;p3"), 1);
        Due.street(x, "52;p345,s6");
        due.due("letters of an earlier tape are gone", Due.street(x, "5"), -21);
    }

    private static void fault(String text, int place) {
        QuarrelWalls x = new QuarrelWalls();
        due.due("'" + text + "'", Due.street(x, text), -20 - place);
        due.due("'" + text + "' leaves no garden", x.count(0), 0);
        due.due("'" + text + "' leaves year", x.count(2), 12);
    }

    private static void faults() {
        fault("", 0);
        fault("  ", 2);
        fault("x", 0);
        fault("  x", 2);
        fault(";", 0);
        fault("-5;p3", 0);
        fault("0;p3", 0);
        fault("1;p3", 0);
        fault("1", 0);
        fault("  1;p3", 2);
        fault("53;p3", 0);
        fault("  99;p3", 2);
        fault("530;p3", 0);
        fault("120;p3", 2);
        fault("012;p3", 0);
        fault("022;p3", 2);
        fault("1 2;p3", 0);
        fault("5 2;p3", 2);
        fault("5  2;p3", 3);
        fault("12", 2);
        fault("12 ", 3);
        fault("12.p3", 2);
        fault("12  :p3", 4);
        fault("12;", 3);
        fault("12; ", 4);
        fault("12;q3", 3);
        fault("12;P3", 3);
        fault("12;3p", 3);
        fault("12;;p3", 3);
        fault("12;,p3", 3);
        fault("12;p", 4);
        fault("12;pp", 4);
        fault("12;p x", 5);
        fault("12;p3,", 5);
        fault("12;p3,s4", 5);
        fault("12;p3 , s4", 6);
        fault("12;p3s", 5);
        fault("12;p34", 6);
        fault("12;p34,s4", 6);
        fault("12;p34 ,s4", 7);
        fault("12;p345", 7);
        fault("12;p345  ", 9);
        fault("12;p3456", 7);
        fault("12;p345s4", 7);
        fault("12;p345,", 8);
        fault("12;p345,,", 8);
        fault("12;p345,s", 9);
        fault("12;p345,s9,", 10);
        fault("12;p345,s99", 11);
        fault("12;p345,s991", 12);
        fault("12;p345,s9;", 10);
        fault("2;p000,p000,p000,p000,p000,p00", 29);
        fault("2;p000,p000,p000,p000,p000,p0,", 29);
        fault("2;p000,p000,p000,p000,p000,p000,p0", 29);
        fault("2;p000,p000,p000,p000,p000,p0  000,p0", 31);
    }

    private static void street(String text, int gardens, int year, String kinds, String noises, int... quarrels) {
        QuarrelWalls x = new QuarrelWalls();
        due.due("'" + text + "'", Due.street(x, text), gardens);
        due.due("'" + text + "': gardens", x.count(0), gardens);
        due.due("'" + text + "': year", x.count(2), year);
        for (int g = 0; g < gardens; g++) {
            due.due("'" + text + "': kind", x.of(g, 0), kinds.charAt(g) - '0');
            due.due("'" + text + "': noise", x.of(g, 1), noises.charAt(g) - '0');
        }
        for (int w = 0; w < gardens - 1; w++) {
            due.due("'" + text + "': quarrel", x.wall(w, 1), quarrels[w]);
        }
    }

    private static void streets() {
        street("2;p0", 1, 2, "0", "0");
        street("52;a9", 1, 52, "4", "9");
        street("02;s5", 1, 2, "1", "5");
        street("09;m5", 1, 9, "2", "5");
        street("12;d345,m9", 2, 12, "32", "39", 45);
        street("6;p730,s460,m915,d245,a088,p3", 6, 6, "012340", "749203", 30, 60, 15, 45, 88);
        street("2;p000,p099,p009,p090,p000,p0", 6, 2, "000000", "000000", 0, 99, 9, 90, 0);
        street("  12  ;  d  3  45  ,  m  9  ", 2, 12, "32", "39", 45);
        // blanks end a number, and two digits are told as digits, not as a number
        street("12;d34 5,m9", 2, 12, "32", "39", 45);
    }

    private static void aFaultChangesNothing() {
        QuarrelWalls x = Due.of("6;p730,s460,m915,d245,a088,p3");
        x.weeks(7);
        x.sorry(2);
        x.gossip(1, 9);
        String was = Due.shown(x);
        due.due("a fault", Due.street(x, "12;p345,s9,"), -30);
        due.holds("all else stays", was.equals(Due.shown(x)));
        due.due("the tape does not", x.type(50), 1);
        due.due("undo()", x.undo(), 7);
    }

    private static void whatAStreetEnds() {
        QuarrelWalls x = Due.of("2;p099,s099,m9");
        x.rule(1, 4);
        x.weeks(5);
        x.sorry(0);
        x.gift(0, 1, 100);
        x.seed(77);
        due.due("street", Due.street(x, "9;s112,p234,p5"), 3);
        int[] counts = {3, 0, 9, 4, 0, 46, 0, 9, 3, 0};
        for (int what = 0; what < 10; what++) {
            due.due("count(" + what + ")", x.count(what), counts[what]);
        }
        due.due("the draw stays", x.seed(1), 77);
        due.due("nothing to be undone", x.undo(), -4);
        due.due("apology may be made", x.sorry(0), 8);
        Due.street(x, "2;p799,p788,p777,p766,p755,p7");
        x.weeks(2);
        due.due("a shorter street", Due.street(x, "2;p710,p7"), 2);
        due.due("courses", x.count(4), 0);
        due.due("quarrels", x.count(5), 10);
        due.due("paid", x.count(6), 0);
        due.due("apologies", x.count(8), 1);
        due.due("sees", x.of(0, 5), 2);
    }
}
