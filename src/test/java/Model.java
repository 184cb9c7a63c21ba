import java.util.ArrayList;
import java.util.List;
import java.util.regex.Matcher;
import java.util.regex.Pattern;

/**
 * The document once more, as plainly as can be: every week is lived through one by one, whatever is
 * foretold is tried out on a whole copy, every set and every gift is tried. ModelTest holds the
 * program against it.
 */
final class Model {
    static final int BAD = -1, NOT = -2, FULL = -3, NONE = -4, NULL = -11, CAST = -12, INDEX = -13, SIZE = -14;

    static class Plain {
        int galls(int noise, int courses) {
            return noise / 3 + courses / 5;
        }
    }

    static class Sulker extends Plain {
        @Override
        int galls(int noise, int courses) {
            return 2 * super.galls(noise, courses);
        }
    }

    static class Mild extends Plain {
        @Override
        int galls(int noise, int courses) {
            return Math.max(0, super.galls(noise, courses) - 1);
        }
    }

    static class Deaf extends Mild {
        @Override
        int galls(int noise, int courses) {
            return super.galls(0, courses);
        }
    }

    static class Mason extends Sulker {
        @Override
        int galls(int noise, int courses) {
            return super.galls(noise, courses) + 1;
        }
    }

    static final Plain[] KINDS = {new Plain(), new Sulker(), new Mild(), new Deaf(), new Mason()};

    static final class Garden {
        int kind;
        int noise;
        int paid;

        Garden(int kind, int noise, int paid) {
            this.kind = kind;
            this.noise = noise;
            this.paid = paid;
        }
    }

    static final class Wall {
        int courses;
        int quarrel;
        Integer lastApology;

        Wall(int courses, int quarrel, Integer lastApology) {
            this.courses = courses;
            this.quarrel = quarrel;
            this.lastApology = lastApology;
        }
    }

    static final class State {
        List<Garden> gardens = new ArrayList<>();
        List<Wall> walls = new ArrayList<>();
        int week = 0;
        int year = 12;
        int ease = 1;
        long draw = 1;
        List<State> past = new ArrayList<>();

        State alone() {
            State s = new State();
            for (Garden g : gardens) {
                s.gardens.add(new Garden(g.kind, g.noise, g.paid));
            }
            for (Wall w : walls) {
                s.walls.add(new Wall(w.courses, w.quarrel, w.lastApology));
            }
            s.week = week;
            s.year = year;
            s.ease = ease;
            s.draw = draw;
            return s;
        }

        State whole() {
            State s = alone();
            for (State p : past) {
                s.past.add(p.alone());
            }
            return s;
        }

        void step() {
            past.add(alone());
            if (past.size() > 8) {
                past.remove(0);
            }
        }

        int more(int k) {
            Garden a = gardens.get(k);
            Garden b = gardens.get(k + 1);
            int courses = walls.get(k).courses;
            return KINDS[a.kind].galls(b.noise, courses) + KINDS[b.kind].galls(a.noise, courses) - ease;
        }

        /** Whether it was a MICHAELMAS that changed a WALL; null: no MICHAELMAS. */
        Boolean aWeek() {
            for (int k = 0; k < walls.size(); k++) {
                Wall w = walls.get(k);
                w.quarrel = Math.max(0, Math.min(99, w.quarrel + more(k)));
            }
            week++;
            if (week % year != 0) {
                return null;
            }
            boolean changed = false;
            for (int k = 0; k < walls.size(); k++) {
                Wall w = walls.get(k);
                int due = w.quarrel / 5;
                while (w.courses != due) {
                    changed = true;
                    int cost = w.courses < due ? 2 : 1;
                    w.courses += w.courses < due ? 1 : -1;
                    gardens.get(k).paid += cost;
                    gardens.get(k + 1).paid += cost;
                }
            }
            return changed;
        }

        void toMichaelmas() {
            Boolean came;
            do {
                came = aWeek();
            } while (came == null);
        }

        boolean open(int k) {
            return wait(k) == 0;
        }

        int wait(int k) {
            Integer last = walls.get(k).lastApology;
            int left = 0;
            while (last != null && week + left < last + 3) {
                left++;
            }
            return left;
        }

        void apology(int k) {
            Wall w = walls.get(k);
            w.quarrel -= w.quarrel / 3;
            w.lastApology = week;
        }

        void gift(int k, int n) {
            int root = 0;
            while ((root + 1) * (root + 1) <= n) {
                root++;
            }
            Wall w = walls.get(k);
            w.quarrel = Math.max(0, w.quarrel - root);
        }

        void gossip(int k, int n) {
            Wall w = walls.get(k);
            w.quarrel = Math.min(99, w.quarrel + n);
        }

        void fall(int k) {
            walls.get(k).courses = 0;
            gossip(k, 5);
        }

        int courses() {
            int all = 0;
            for (Wall w : walls) {
                all += w.courses;
            }
            return all;
        }

        int quarrels() {
            int all = 0;
            for (Wall w : walls) {
                all += w.quarrel;
            }
            return all;
        }
    }

    State s = new State();
    State kept = null;
    StringBuilder tape = new StringBuilder();
    Object[] sheets = new Object[4];

    boolean noWall(int k) {
        return k < 0 || k >= s.walls.size();
    }

    boolean noGarden(int g) {
        return g < 0 || g >= s.gardens.size();
    }

    static boolean out(long v, long low, long high) {
        return v < low || v > high;
    }

    int garden(int kind, int noise) {
        if (out(kind, 0, 4) || out(noise, 0, 9)) {
            return BAD;
        }
        if (s.gardens.size() == 6) {
            return FULL;
        }
        s.gardens.add(new Garden(kind, noise, 0));
        if (s.gardens.size() > 1) {
            s.walls.add(new Wall(0, 0, null));
        }
        s.past.clear();
        return s.gardens.size() - 1;
    }

    int of(int g, int what) {
        if (noGarden(g) || out(what, 0, 5)) {
            return BAD;
        }
        Garden me = s.gardens.get(g);
        if (what == 0) {
            return me.kind;
        }
        if (what == 1) {
            return me.noise;
        }
        if (what == 2) {
            return me.paid;
        }
        if (what == 3) {
            return g == 0 ? 0 : KINDS[me.kind].galls(s.gardens.get(g - 1).noise, s.walls.get(g - 1).courses);
        }
        if (what == 4) {
            return noGarden(g + 1) ? 0 : KINDS[me.kind].galls(s.gardens.get(g + 1).noise, s.walls.get(g).courses);
        }
        int set = 0;
        for (int other = 0; other < s.gardens.size(); other++) {
            boolean clear = other != g;
            for (int w = Math.min(g, other); w < Math.max(g, other); w++) {
                clear &= s.walls.get(w).courses < 5;
            }
            set |= clear ? 1 << other : 0;
        }
        return set;
    }

    int wall(int k, int what) {
        if (noWall(k) || out(what, 0, 3)) {
            return BAD;
        }
        int[] answers = {s.walls.get(k).courses, s.walls.get(k).quarrel, s.more(k) + 100, s.wait(k)};
        return answers[what];
    }

    int noise(int g, int v) {
        if (noGarden(g) || out(v, 0, 9)) {
            return BAD;
        }
        int was = s.gardens.get(g).noise;
        s.gardens.get(g).noise = v;
        return was;
    }

    int rule(int what, int v) {
        if (out(what, 0, 1) || what == 0 && out(v, 2, 52) || what == 1 && out(v, 0, 9)) {
            return BAD;
        }
        int was = what == 0 ? s.year : s.ease;
        if (what == 0) {
            s.year = v;
        } else {
            s.ease = v;
        }
        return was;
    }

    int type(int letter) {
        if (out(letter, 32, 126)) {
            return BAD;
        }
        if (tape.length() == 60) {
            return FULL;
        }
        tape.append((char) letter);
        return tape.length();
    }

    static final Pattern YEAR = Pattern.compile(" *([0-9][0-9]?).*");
    static final Pattern REST = Pattern.compile(" *;( *[psmda] *[0-9] *[0-9] *[0-9] *,){0,5} *[psmda] *[0-9] *");

    /** 0: no FAULT. */
    static int fault(String text) {
        Matcher year = YEAR.matcher(text);
        if (!year.matches()) {
            int place = 0;
            while (place < text.length() && text.charAt(place) == ' ') {
                place++;
            }
            return -20 - place;
        }
        if (out(Integer.parseInt(year.group(1)), 2, 52)) {
            return -20 - year.start(1);
        }
        int from = year.end(1);
        if (REST.matcher(text.substring(from)).matches()) {
            return 0;
        }
        for (int end = from; end <= text.length(); end++) {
            Matcher some = REST.matcher(text.substring(from, end));
            boolean fine = some.matches() || some.hitEnd();
            if (!fine) {
                return -20 - (end - 1);
            }
        }
        return -20 - text.length();
    }

    int street() {
        String text = tape.toString();
        tape.setLength(0);
        int fault = fault(text);
        if (fault != 0) {
            return fault;
        }
        String year = text.substring(0, text.indexOf(';')).trim();
        String[] parts = text.substring(text.indexOf(';') + 1).replace(" ", "").split(",");
        State fresh = new State();
        fresh.ease = s.ease;
        fresh.draw = s.draw;
        fresh.year = Integer.parseInt(year);
        for (String part : parts) {
            fresh.gardens.add(new Garden("psmda".indexOf(part.charAt(0)), part.charAt(1) - '0', 0));
            if (part.length() > 2) {
                fresh.walls.add(new Wall(0, Integer.parseInt(part.substring(2)), null));
            }
        }
        s = fresh;
        return parts.length;
    }

    int count(int what) {
        if (out(what, 0, 9)) {
            return BAD;
        }
        int paid = 0;
        for (Garden g : s.gardens) {
            paid += g.paid;
        }
        int toGo = 1;
        while ((s.week + toGo) % s.year != 0) {
            toGo++;
        }
        int open = 0;
        for (int k = 0; k < s.walls.size(); k++) {
            open |= s.open(k) ? 1 << k : 0;
        }
        int[] answers = {s.gardens.size(), s.week, s.year, s.ease, s.courses(), s.quarrels(), paid, toGo, open, s.past.size()};
        return answers[what];
    }

    int weeks(int n) {
        if (out(n, 1, 52)) {
            return BAD;
        }
        if (s.week + n > 9999) {
            return FULL;
        }
        for (int k = 0; k < n; k++) {
            s.step();
            s.aWeek();
        }
        return s.courses();
    }

    int sorry(int k) {
        if (noWall(k)) {
            return BAD;
        }
        if (!s.open(k)) {
            return NOT;
        }
        s.step();
        s.apology(k);
        return s.walls.get(k).quarrel;
    }

    int gift(int k, int by, int n) {
        if (noWall(k) || out(by, 0, 1) || out(n, 1, 400)) {
            return BAD;
        }
        s.step();
        s.gift(k, n);
        s.gardens.get(k + by).paid += n;
        return s.walls.get(k).quarrel;
    }

    int gossip(int k, int n) {
        if (noWall(k) || out(n, 1, 9)) {
            return BAD;
        }
        s.step();
        s.gossip(k, n);
        return s.walls.get(k).quarrel;
    }

    int lovers(int k) {
        if (noWall(k)) {
            return BAD;
        }
        if (s.walls.get(k).courses == 0) {
            return NOT;
        }
        s.step();
        return --s.walls.get(k).courses;
    }

    int falls(int k) {
        if (noWall(k)) {
            return BAD;
        }
        int had = s.walls.get(k).courses;
        if (had == 0) {
            return NOT;
        }
        s.step();
        s.fall(k);
        return had;
    }

    int drift(int n) {
        if (out(n, 1, 52)) {
            return BAD;
        }
        if (s.week + n > 9999) {
            return FULL;
        }
        int fell = 0;
        for (int k = 0; k < n; k++) {
            s.step();
            s.aWeek();
            for (int w = 0; w < s.walls.size(); w++) {
                if (s.walls.get(w).courses < 12) {
                    continue;
                }
                s.draw = (s.draw * 1103515245L + 12345L) % (1L << 31);
                if (s.draw / 65536 % 100 < s.walls.get(w).courses) {
                    s.fall(w);
                    fell++;
                }
            }
        }
        return fell;
    }

    int undo() {
        if (s.past.isEmpty()) {
            return NONE;
        }
        State was = s.past.remove(s.past.size() - 1);
        for (int g = 0; g < s.gardens.size(); g++) {
            s.gardens.get(g).paid = was.gardens.get(g).paid;
        }
        s.walls = was.walls;
        s.week = was.week;
        s.draw = was.draw;
        return s.past.size();
    }

    int seed(int v) {
        if (v < 0) {
            return BAD;
        }
        int was = (int) s.draw;
        s.draw = v;
        return was;
    }

    int ahead(int k, int n, int what) {
        if (k != NONE && noWall(k) || out(n, 0, 104) || out(what, 0, 1)) {
            return BAD;
        }
        State t = s.alone();
        for (int w = 0; w < n; w++) {
            t.aWeek();
        }
        if (k == NONE) {
            return what == 0 ? t.courses() : t.quarrels();
        }
        return what == 0 ? t.walls.get(k).courses : t.walls.get(k).quarrel;
    }

    int settles() {
        State t = s.alone();
        int many = 0;
        while (many <= 20) {
            Boolean changed = t.aWeek();
            if (changed != null && !changed) {
                return many;
            }
            many += changed == null ? 0 : 1;
        }
        return NONE;
    }

    int leastGift(int k, int h) {
        if (noWall(k) || out(h, 0, 19)) {
            return BAD;
        }
        for (int n = 0; n <= 400; n++) {
            State t = s.alone();
            t.gift(k, n);
            t.toMichaelmas();
            if (t.walls.get(k).courses <= h) {
                return n;
            }
        }
        return NONE;
    }

    int sorries(int m, int what) {
        if (out(m, 0, 5) || out(what, 0, 1)) {
            return BAD;
        }
        long best = Long.MAX_VALUE;
        for (int set = 0; set < 1 << s.walls.size(); set++) {
            State t = s.alone();
            for (int k = 0; k < t.walls.size(); k++) {
                if ((set & 1 << k) != 0 && t.open(k)) {
                    t.apology(k);
                }
            }
            t.toMichaelmas();
            if (Integer.bitCount(set) <= m) {
                best = Math.min(best, t.courses() * 10000L + Integer.bitCount(set) * 100L + set);
            }
        }
        return (int) (what == 0 ? best % 100 : best / 10000);
    }

    int stir(int n, int what) {
        if (out(n, 1, 9) || out(what, 0, 1)) {
            return BAD;
        }
        int most = NONE;
        int first = NONE;
        for (int k = s.walls.size() - 1; k >= 0; k--) {
            State t = s.alone();
            t.gossip(k, n);
            t.toMichaelmas();
            if (t.courses() >= most) {
                most = t.courses();
                first = k;
            }
        }
        return what == 0 ? first : most;
    }

    int holds(int n) {
        if (out(n, 0, 52)) {
            return BAD;
        }
        long parts = 1000000;
        for (int k = 0; k < n; k++) {
            for (Wall w : s.walls) {
                parts = w.courses >= 12 ? parts * (100 - w.courses) / 100 : parts;
            }
        }
        return (int) parts;
    }

    int image() {
        kept = s.whole();
        return 1;
    }

    int restore() {
        if (kept == null) {
            return NONE;
        }
        s = kept.whole();
        return 1;
    }

    /** 0: the items can be taken so. */
    int taken(int sheet, int lane, int i, int n) {
        if (sheets[sheet] == null) {
            return NULL;
        }
        if (laneOf(sheets[sheet]) != lane) {
            return CAST;
        }
        int length = java.lang.reflect.Array.getLength(sheets[sheet]);
        return out(i, 0, length) || out((long) i + n, 0, length) || n < 0 ? INDEX : 0;
    }

    static int laneOf(Object row) {
        return row instanceof byte[] ? 0 : row instanceof short[] ? 1 : row instanceof int[] ? 2 : 3;
    }

    void put(int sheet, int i, long v) {
        Object row = sheets[sheet];
        switch (laneOf(row)) {
            case 0 -> ((byte[]) row)[i] = (byte) v;
            case 1 -> ((short[]) row)[i] = (short) v;
            case 2 -> ((int[]) row)[i] = (int) v;
            default -> ((long[]) row)[i] = v;
        }
    }

    int seen(int k, int sheet, int lane, int i, int n, int what) {
        if (noWall(k) || out(sheet, 0, 3) || out(lane, 0, 3) || out(n, 1, 6) || out(what, 0, 1)) {
            return BAD;
        }
        int no = taken(sheet, lane, i, n);
        if (no != 0) {
            return no;
        }
        int many = 0;
        int least = NONE;
        for (int quarrel = 99; quarrel >= 0; quarrel--) {
            State t = s.alone();
            t.walls.get(k).quarrel = quarrel;
            boolean so = true;
            for (int m = 0; m < n; m++) {
                t.toMichaelmas();
                so &= java.lang.reflect.Array.getLong(sheets[sheet], i + m) == t.walls.get(k).courses;
            }
            many += so ? 1 : 0;
            least = so ? quarrel : least;
        }
        return what == 0 ? many : least;
    }

    int film(int k, int n, int sheet, int lane, int i) {
        if (noWall(k) || out(n, 1, 24) || out(sheet, 0, 3) || out(lane, 0, 3)) {
            return BAD;
        }
        int no = taken(sheet, lane, i, n);
        if (no != 0) {
            return no;
        }
        State t = s.alone();
        for (int w = 0; w < n; w++) {
            t.aWeek();
            put(sheet, i + w, t.walls.get(k).quarrel);
        }
        return n;
    }

    int sheet(int sheet, int lane, int n) {
        if (out(sheet, 0, 3) || out(lane, 0, 3) || n > 24) {
            return BAD;
        }
        if (n < 0) {
            return SIZE;
        }
        Object[] rows = {new byte[n], new short[n], new int[n], new long[n]};
        sheets[sheet] = rows[lane];
        return n;
    }

    int drop(int sheet) {
        if (out(sheet, 0, 3)) {
            return BAD;
        }
        if (sheets[sheet] == null) {
            return NULL;
        }
        int had = java.lang.reflect.Array.getLength(sheets[sheet]);
        sheets[sheet] = null;
        return had;
    }

    int item(int sheet, int lane, int i, long v) {
        if (out(sheet, 0, 3) || out(lane, 0, 3)) {
            return BAD;
        }
        int no = taken(sheet, lane, i, 1);
        if (no == 0) {
            put(sheet, i, v);
            return 1;
        }
        return no;
    }

    int copy(int from, int i, int to, int j, int n) {
        if (out(from, 0, 3) || out(to, 0, 3)) {
            return BAD;
        }
        if (sheets[from] == null || sheets[to] == null) {
            return NULL;
        }
        if (laneOf(sheets[from]) != laneOf(sheets[to])) {
            return CAST;
        }
        try {
            System.arraycopy(sheets[from], i, sheets[to], j, n);
        } catch (IndexOutOfBoundsException e) {
            return INDEX;
        }
        return n;
    }
}
