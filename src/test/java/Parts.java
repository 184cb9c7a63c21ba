import java.util.ArrayList;
import java.util.LinkedHashMap;
import java.util.List;
import java.util.Map;
import java.util.function.Supplier;

/**
 * All that an object holds, part by part, so that a test can say which parts a call changes.
 * To read some of them uses an object up, so each is read from an object of its own.
 */
final class Parts {
    private static final String[] LANES = {"bytes", "shorts", "ints", "longs"};

    /** What stands now, THE TAPE and the SHEETS, by name. */
    final Map<String, String> now = new LinkedHashMap<>();
    /** What each UNDO brings back, the latest first. */
    final List<String> past = new ArrayList<>();
    /** The IMAGE: what restore() answers, what stands then, what may be UNDONE then. */
    final Map<String, String> image = new LinkedHashMap<>();
    final List<String> imagePast = new ArrayList<>();
    /** What an UNDO would bring back if a step were made now. */
    final String standing;

    Parts(Supplier<QuarrelWalls> made) {
        standing = standing(made.get());
        street(made.get(), now);
        past(made.get(), past);
        tape(made.get());
        sheets(made.get());
        QuarrelWalls back = made.get();
        image.put("restore", Integer.toString(back.restore()));
        street(back, image);
        past(back, imagePast);
    }

    boolean same(Parts other) {
        return now.equals(other.now) && past.equals(other.past) && image.equals(other.image) && imagePast.equals(other.imagePast);
    }

    /** The parts of what stands now that are not as in another one: "name was>is", "-" where there is none. */
    String changedFrom(Parts other) {
        Map<String, String> all = new LinkedHashMap<>(other.now);
        all.putAll(now);
        List<String> changed = new ArrayList<>();
        for (String name : all.keySet()) {
            String was = other.now.getOrDefault(name, "-");
            String is = now.getOrDefault(name, "-");
            if (!was.equals(is)) {
                changed.add(name + " " + was + ">" + is);
            }
        }
        return String.join(", ", changed);
    }

    private static int draw(QuarrelWalls x) {
        int draw = x.seed(0);
        x.seed(draw);
        return draw;
    }

    private static void street(QuarrelWalls x, Map<String, String> parts) {
        String[] names = {"gardens", "week", "year", "ease"};
        for (int what = 0; what < names.length; what++) {
            parts.put(names[what], Integer.toString(x.count(what)));
        }
        parts.put("draw", Integer.toString(draw(x)));
        parts.put("known", Integer.toString(x.count(9)));
        int gardens = x.count(0);
        for (int g = 0; g < gardens; g++) {
            parts.put("kind " + g, Integer.toString(x.of(g, 0)));
            parts.put("noise " + g, Integer.toString(x.of(g, 1)));
            parts.put("paid " + g, Integer.toString(x.of(g, 2)));
        }
        for (int w = 0; w < gardens - 1; w++) {
            parts.put("courses " + w, Integer.toString(x.wall(w, 0)));
            parts.put("quarrel " + w, Integer.toString(x.wall(w, 1)));
            parts.put("wait " + w, Integer.toString(x.wall(w, 3)));
        }
    }

    private static String standing(QuarrelWalls x) {
        StringBuilder all = new StringBuilder();
        all.append("week ").append(x.count(1)).append(" draw ").append(draw(x));
        int gardens = x.count(0);
        for (int g = 0; g < gardens; g++) {
            all.append(" paid ").append(x.of(g, 2));
        }
        for (int w = 0; w < gardens - 1; w++) {
            all.append(" wall ").append(x.wall(w, 0)).append(' ').append(x.wall(w, 1)).append(' ').append(x.wall(w, 3));
        }
        return all.toString();
    }

    private static void past(QuarrelWalls x, List<String> past) {
        for (int k = 0; k < 9 && x.undo() >= 0; k++) {
            past.add(standing(x));
        }
    }

    /** How many letters it has, and what is read from them. */
    private void tape(QuarrelWalls x) {
        int letters = x.type(' ');
        // a full one takes no letter more
        now.put("tape", (letters < 0 ? "full" : letters - 1) + " letters, read as " + x.street()
                + " of year " + x.count(2) + ", the first one " + x.of(0, 0) + " " + x.of(0, 1));
    }

    private void sheets(QuarrelWalls x) {
        // THE TAPE must be empty ahead of another text
        x.street();
        Whole.still(x);
        for (int s = 0; s < 4; s++) {
            StringBuilder row = new StringBuilder("nothing");
            for (int lane = 0; lane < 4; lane++) {
                // far beyond every row: INDEX, if it is of this LANE
                if (x.item(s, lane, 99, 0) == -13) {
                    row = new StringBuilder(LANES[lane]);
                    items(x, s, lane, row);
                }
            }
            now.put("sheet " + s, row.append(", ").append(x.drop(s)).append(" items").toString());
        }
    }

    /** An item of 0 .. 19 can be told, another one is shown as "?". */
    private static void items(QuarrelWalls x, int sheet, int lane, StringBuilder row) {
        for (int i = 0; i < 25; i++) {
            int item = Whole.item(x, sheet, lane, i);
            if (item == -13) {
                return;
            }
            row.append(' ').append(item == -4 ? "?" : Integer.toString(item / 5));
        }
    }
}
