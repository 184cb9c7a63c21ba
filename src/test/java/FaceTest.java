import java.lang.reflect.Constructor;
import java.lang.reflect.Field;
import java.lang.reflect.Method;
import java.lang.reflect.Modifier;
import java.util.ArrayList;
import java.util.List;
import java.util.TreeSet;

/** Promise 1, the constants, and the face as LANGUAGE.md's rules 1 and 5 want it. */
public final class FaceTest {
    private static final String[] METHODS = {
        "garden(int,int)", "of(int,int)", "wall(int,int)", "noise(int,int)", "rule(int,int)", "type(int)", "street()",
        "count(int)", "weeks(int)", "sorry(int)", "gift(int,int,int)", "gossip(int,int)", "lovers(int)", "falls(int)",
        "drift(int)", "undo()", "seed(int)", "ahead(int,int,int)", "settles()", "leastGift(int,int)",
        "sorries(int,int)", "stir(int,int)", "holds(int)", "image()", "restore()",
        "seen(int,int,int,int,int,int)", "film(int,int,int,int,int)", "sheet(int,int,int)", "drop(int)",
        "item(int,int,int,long)", "copy(int,int,int,int,int)"};
    private static final String[] CONSTANTS = {"BAD", "NOT", "FULL", "NONE", "NULL", "CAST", "INDEX", "SIZE"};
    private static final Due due = new Due();

    public static void main(String[] args) {
        constants();
        aNewObject();
        theMethods();
        theFields();
        theClassesInside();
        due.end();
    }

    private static void constants() {
        due.due("BAD", QuarrelWalls.BAD, -1);
        due.due("NOT", QuarrelWalls.NOT, -2);
        due.due("FULL", QuarrelWalls.FULL, -3);
        due.due("NONE", QuarrelWalls.NONE, -4);
        due.due("NULL", QuarrelWalls.NULL, -11);
        due.due("CAST", QuarrelWalls.CAST, -12);
        due.due("INDEX", QuarrelWalls.INDEX, -13);
        due.due("SIZE", QuarrelWalls.SIZE, -14);
    }

    private static void aNewObject() {
        QuarrelWalls x = new QuarrelWalls();
        int[] counts = {0, 0, 12, 1, 0, 0, 0, 12, 0, 0};
        for (int what = 0; what < counts.length; what++) {
            due.due("new: count(" + what + ")", x.count(what), counts[what]);
        }
        due.due("new: of(0, 0)", x.of(0, 0), -1);
        due.due("new: wall(0, 0)", x.wall(0, 0), -1);
        due.due("new: undo()", x.undo(), -4);
        due.due("new: restore()", x.restore(), -4);
        due.due("new: street()", x.street(), -20);
        due.due("new: seed(7)", x.seed(7), 1);
        for (int s = 0; s < 4; s++) {
            due.due("new: drop(" + s + ")", x.drop(s), -11);
        }
    }

    private static void theMethods() {
        TreeSet<String> found = new TreeSet<>();
        List<String> names = new ArrayList<>();
        for (Method m : QuarrelWalls.class.getDeclaredMethods()) {
            if (Modifier.isPublic(m.getModifiers())) {
                StringBuilder b = new StringBuilder(m.getName()).append('(');
                for (Class<?> p : m.getParameterTypes()) {
                    b.append(b.charAt(b.length() - 1) == '(' ? "" : ",").append(p.getName());
                }
                found.add(b.append(')').toString());
                names.add(m.getName());
                due.holds(m + " answers an int of an object", m.getReturnType() == int.class && !Modifier.isStatic(m.getModifiers()));
            }
        }
        due.holds("the public methods are " + found, found.equals(new TreeSet<>(List.of(METHODS))));
        for (Method m : QuarrelWalls.class.getDeclaredMethods()) {
            if (!Modifier.isPublic(m.getModifiers())) {
                due.holds(m + " is private, with a name of its own", Modifier.isPrivate(m.getModifiers()) && !names.contains(m.getName()));
            }
        }
        Constructor<?>[] made = QuarrelWalls.class.getDeclaredConstructors();
        due.holds("one public constructor", made.length == 1 && Modifier.isPublic(made[0].getModifiers()) && made[0].getParameterCount() == 0);
        int of = QuarrelWalls.class.getModifiers();
        due.holds("the class is public and final", Modifier.isPublic(of) && Modifier.isFinal(of));
    }

    private static void theFields() {
        TreeSet<String> found = new TreeSet<>();
        int own = 0;
        for (Field f : QuarrelWalls.class.getDeclaredFields()) {
            int of = f.getModifiers();
            if (Modifier.isPublic(of)) {
                found.add(f.getName());
                due.holds(f + " is a constant", Modifier.isStatic(of) && Modifier.isFinal(of) && f.getType() == int.class);
            } else {
                due.holds(f + " is private", Modifier.isPrivate(of));
            }
            due.holds(f + " is final if static", !Modifier.isStatic(of) || Modifier.isFinal(of));
            own += Modifier.isStatic(of) ? 0 : 1;
        }
        due.holds("the public fields are " + found, found.equals(new TreeSet<>(List.of(CONSTANTS))));
        due.holds("some twenty fields: " + own, own <= 20);
    }

    private static void theClassesInside() {
        Class<?>[] inside = QuarrelWalls.class.getDeclaredClasses();
        due.holds("some twelve classes: " + inside.length, inside.length <= 11);
        TreeSet<String> faceNames = new TreeSet<>();
        for (String m : METHODS) {
            faceNames.add(m.substring(0, m.indexOf('(')));
        }
        for (Class<?> c : inside) {
            due.holds(c + " is static and not public", Modifier.isStatic(c.getModifiers()) && !Modifier.isPublic(c.getModifiers()));
            due.holds(c + " has some twenty fields", c.getDeclaredFields().length <= 20);
            for (Field f : c.getDeclaredFields()) {
                due.holds(f + " is no static state", !Modifier.isStatic(f.getModifiers()) || Modifier.isFinal(f.getModifiers()));
            }
            for (Method m : c.getDeclaredMethods()) {
                due.holds(m + " has a name of its own", !faceNames.contains(m.getName()));
                due.holds(m + " has at most seven parameters", m.getParameterCount() <= 7);
            }
        }
    }
}
