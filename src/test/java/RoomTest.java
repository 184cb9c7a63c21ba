import java.lang.management.ManagementFactory;

/** All calls of a run live in one room: no call may make anything, and an object is small. */
public final class RoomTest {
    private static final Due due = new Due();
    private static final com.sun.management.ThreadMXBean COUNTS =
            (com.sun.management.ThreadMXBean) ManagementFactory.getThreadMXBean();

    public static void main(String[] args) {
        // once for what the machine itself makes when it meets a class for the first time
        use(Due.of("2;p730,s460,m915,d245,a088,p3"));
        QuarrelWalls[] all = new QuarrelWalls[100];
        long before = made();
        for (int k = 0; k < all.length; k++) {
            all[k] = new QuarrelWalls();
        }
        due.holds("an object is small", made() - before < 16_000 * all.length);
        for (QuarrelWalls x : all) {
            type(x);
        }
        before = made();
        for (QuarrelWalls x : all) {
            use(x);
        }
        due.holds("no call makes anything", made() - before < 1_000);
        due.end();
    }

    private static long made() {
        return COUNTS.getThreadAllocatedBytes(Thread.currentThread().getId());
    }

    private static final int[] TEXT = {'2', ';', 'p', '7', '3', '0', ',', 's', '4'};

    private static void type(QuarrelWalls x) {
        for (int letter : TEXT) {
            x.type(letter);
        }
        x.street();
    }

    private static void use(QuarrelWalls x) {
        x.image();
        x.garden(1, 1);
        x.restore();
        x.weeks(9);
        x.drift(9);
        x.sorry(0);
        x.gift(0, 0, 400);
        x.gossip(0, 9);
        x.lovers(0);
        x.falls(0);
        x.undo();
        x.seed(5);
        x.of(0, 5);
        x.wall(0, 2);
        x.noise(0, 7);
        x.rule(1, 1);
        x.count(8);
        x.ahead(-4, 104, 0);
        x.settles();
        x.leastGift(0, 0);
        x.sorries(5, 1);
        x.stir(9, 1);
        x.holds(52);
        x.sheet(0, 3, 24);
        x.sheet(1, 3, 24);
        x.item(0, 3, 1, 5);
        x.film(0, 24, 0, 3, 0);
        x.seen(0, 0, 3, 0, 6, 0);
        x.copy(0, 0, 1, 0, 24);
        x.drop(1);
        type(x);
    }
}
