import java.lang.reflect.InvocationTargetException;
import java.lang.reflect.Method;
import java.lang.reflect.Modifier;
import java.util.function.Supplier;

/**
 * Every call of the face with every choice out of a row of far and near numbers: none throws (LANGUAGE.md, rule 7),
 * and below 0 a call answers only what its promise names.
 */
public final class AnswersTest {
    private static final Due due = new Due();
    /** An object is used for at most 512 calls: what makes one is within the rest. */
    private static final int CALLS = 200;
    private static final int[] MANY = {Integer.MIN_VALUE, Integer.MIN_VALUE + 1, -20, -5, -4, -1, 0, 1, 2, 3, 4, 5, 6, 7, 9, 10,
        19, 20, 23, 24, 25, 31, 32, 51, 52, 53, 60, 104, 105, 126, 127, 400, 401, 9999, 65536, Integer.MAX_VALUE - 1, Integer.MAX_VALUE};
    private static final int[] SOME = {Integer.MIN_VALUE, -4, -1, 0, 1, 2, 3, 4, 5, 6, 23, 24, 25, Integer.MAX_VALUE};
    private static final int[] FEW = {Integer.MIN_VALUE, -1, 0, 1, 2, 3, 4, 6, 7, Integer.MAX_VALUE};

    private static final String[] NAMES = {
        "garden BAD FULL", "of BAD", "wall BAD", "noise BAD", "rule BAD", "type BAD FULL", "street", "count BAD",
        "weeks BAD FULL", "sorry BAD NOT", "gift BAD", "gossip BAD", "lovers BAD NOT", "falls BAD NOT", "drift BAD FULL",
        "undo NONE", "seed BAD", "ahead BAD", "settles NONE", "leastGift NONE BAD", "sorries BAD", "stir NONE BAD", "holds BAD",
        "image", "restore NONE", "seen NONE BAD NULL CAST INDEX", "film BAD NULL CAST INDEX", "sheet BAD SIZE", "drop BAD NULL",
        "item BAD NULL CAST INDEX", "copy BAD NULL CAST INDEX"};

    private final Supplier<QuarrelWalls> made;
    private final Method method;
    private final String named;
    private QuarrelWalls x;
    private int calls = CALLS;

    private AnswersTest(Supplier<QuarrelWalls> made, Method method, String named) {
        this.made = made;
        this.method = method;
        this.named = named;
    }

    public static void main(String[] args) throws Exception {
        int faced = 0;
        for (Method method : QuarrelWalls.class.getDeclaredMethods()) {
            if (Modifier.isPublic(method.getModifiers())) {
                faced++;
                String named = named(method.getName());
                new AnswersTest(QuarrelWalls::new, method, named).all();
                new AnswersTest(() -> Due.of("2;a9"), method, named).all();
                new AnswersTest(Whole::rich, method, named).all();
                new AnswersTest(AnswersTest::greatest, method, named).all();
            }
        }
        due.due("calls of the face", faced, NAMES.length);
        due.end();
    }

    /** All as high, as great, as full as can be. */
    private static QuarrelWalls greatest() {
        QuarrelWalls x = Due.of("52;a999,a999,a999,a999,a999,a9");
        x.rule(1, 0);
        x.weeks(52);
        x.image();
        x.rule(0, 2);
        x.seed(Integer.MAX_VALUE);
        for (int s = 0; s < 4; s++) {
            x.sheet(s, s, 24);
        }
        for (int k = 0; k < 60; k++) {
            x.type('9');
        }
        return x;
    }

    private static String named(String name) {
        for (String row : NAMES) {
            if (row.equals(name) || row.startsWith(name + " ")) {
                return row + " ";
            }
        }
        return "";
    }

    private void all() throws Exception {
        int numbers = method.getParameterCount();
        Object[] args = new Object[numbers];
        int[] row = numbers <= 3 ? MANY : numbers <= 4 ? SOME : FEW;
        choose(args, 0, row);
    }

    private void choose(Object[] args, int at, int[] row) throws Exception {
        if (at == args.length) {
            ask(args);
            return;
        }
        boolean wide = method.getParameterTypes()[at] == long.class;
        for (int v : row) {
            // far numbers twice as wide as well
            args[at] = wide ? (Object) (v * (v % 2 == 0 ? 1L << 31 : 1L)) : (Object) v;
            choose(args, at + 1, row);
        }
    }

    private void ask(Object[] args) throws Exception {
        if (calls == CALLS) {
            x = made.get();
            calls = 0;
        }
        calls++;
        try {
            int answer = (Integer) method.invoke(x, args);
            if (!isNamed(answer)) {
                due.holds(told(args) + " answers what is named: " + answer, false);
            }
        } catch (InvocationTargetException e) {
            due.holds(told(args) + " throws " + e.getCause(), false);
            calls = CALLS;
        }
        due.holds("asked", true);
    }

    private boolean isNamed(int answer) throws Exception {
        if (answer >= 0) {
            return true;
        }
        if (method.getName().equals("street")) {
            return answer <= -20 && answer >= -80;
        }
        String[] names = named.trim().split(" ");
        for (int k = 1; k < names.length; k++) {
            if (QuarrelWalls.class.getField(names[k]).getInt(null) == answer) {
                return true;
            }
        }
        return false;
    }

    private String told(Object[] args) {
        return method.getName() + java.util.Arrays.toString(args);
    }
}
