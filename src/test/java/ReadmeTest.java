import java.io.IOException;
import java.lang.reflect.Method;
import java.lang.reflect.Modifier;
import java.nio.file.DirectoryStream;
import java.nio.file.Files;
import java.nio.file.Path;
import java.util.regex.Matcher;
import java.util.regex.Pattern;

/**
 * README.md: its calls answer what it shows, and it names every call and every test; SENTENCES.md: the tests that it
 * names are there. Run from the project's root.
 */
public final class ReadmeTest {
    private static final Due due = new Due();
    private static final Pattern TEXT = Pattern.compile("for \\(char letter : \"([^\"]*)\"\\.toCharArray\\(\\)\\) \\{");
    private static final Pattern CALL = Pattern.compile("x\\.(\\w+)\\(([^)]*)\\);\\s+// (-?\\d+|[A-Z]+)(:.*)?");
    private static final Pattern ANSWER = Pattern.compile("\\| `([A-Z]+)` (-\\d+) \\|.*");

    private QuarrelWalls x;
    private String text = "";

    public static void main(String[] args) throws Exception {
        String page = Files.readString(Path.of("README.md"));
        examples(page);
        answers(page);
        namesEveryCall(page);
        namesEveryTest(page);
        sentences(Files.readString(Path.of("SENTENCES.md")));
        due.end();
    }

    private static void examples(String page) throws Exception {
        ReadmeTest run = new ReadmeTest();
        boolean code = false;
        int shown = 0;
        for (String line : page.split("\n")) {
            if (line.startsWith("```")) {
                code = line.equals("```java");
                shown += code ? 1 : 0;
            } else if (code) {
                run.line(line.trim());
            }
        }
        due.due("examples", shown, 3);
    }

    private void line(String line) throws Exception {
        Matcher typed = TEXT.matcher(line);
        Matcher call = CALL.matcher(line);
        if (line.equals("QuarrelWalls x = new QuarrelWalls();")) {
            x = new QuarrelWalls();
        } else if (typed.matches()) {
            text = typed.group(1);
        } else if (line.equals("x.type(letter);")) {
            for (char letter : text.toCharArray()) {
                x.type(letter);
            }
        } else if (call.matches()) {
            due.due(line, answer(call.group(1), call.group(2)), number(call.group(3)));
        } else {
            due.holds("this line can be read: " + line, line.equals("}"));
        }
    }

    private int answer(String name, String numbers) throws Exception {
        String[] all = numbers.isEmpty() ? new String[0] : numbers.split(", ");
        Method method = method(name);
        Object[] args = new Object[all.length];
        for (int k = 0; k < all.length; k++) {
            boolean wide = method.getParameterTypes()[k] == long.class;
            args[k] = wide ? (Object) Long.valueOf(all[k]) : (Object) Integer.valueOf(all[k]);
        }
        return (Integer) method.invoke(x, args);
    }

    private static Method method(String name) {
        for (Method method : QuarrelWalls.class.getDeclaredMethods()) {
            if (method.getName().equals(name) && Modifier.isPublic(method.getModifiers())) {
                return method;
            }
        }
        throw new IllegalArgumentException(name);
    }

    private static int number(String shown) throws Exception {
        boolean name = Character.isLetter(shown.charAt(0));
        return name ? QuarrelWalls.class.getField(shown).getInt(null) : Integer.parseInt(shown);
    }

    private static void answers(String page) throws Exception {
        int named = 0;
        for (String line : page.split("\n")) {
            Matcher answer = ANSWER.matcher(line);
            if (answer.matches()) {
                named++;
                due.due(answer.group(1), QuarrelWalls.class.getField(answer.group(1)).getInt(null), Integer.parseInt(answer.group(2)));
            }
        }
        due.due("answers below 0", named, 8);
    }

    /** The table of calls has each with as many numbers as it takes, and no other. */
    private static void namesEveryCall(String page) {
        int calls = 0;
        Matcher row = Pattern.compile("(?m)^\\| `(\\w+)\\(([^)]*)\\)` \\|").matcher(page);
        while (row.find()) {
            calls++;
            int numbers = row.group(2).isEmpty() ? 0 : row.group(2).split(", ").length;
            due.due("numbers of " + row.group(1), numbers, method(row.group(1)).getParameterCount());
        }
        for (Method method : QuarrelWalls.class.getDeclaredMethods()) {
            if (Modifier.isPublic(method.getModifiers())) {
                due.holds(method.getName() + " is named", page.contains("\n| `" + method.getName() + "("));
                calls--;
            }
        }
        due.due("each once", calls, 0);
    }

    private static void namesEveryTest(String page) throws IOException {
        try (DirectoryStream<Path> files = Files.newDirectoryStream(Path.of("src/test/java"), "*.java")) {
            for (Path file : files) {
                String name = file.getFileName().toString().replace(".java", "");
                due.holds(name + " is named", page.contains("`" + name + "`"));
            }
        }
        Matcher row = Pattern.compile("(?m)^\\| `(\\w+Test)` \\|").matcher(page);
        while (row.find()) {
            due.holds(row.group(1) + " is there", Files.exists(Path.of("src/test/java", row.group(1) + ".java")));
        }
    }

    private static void sentences(String page) throws IOException {
        Matcher test = Pattern.compile("`(\\w+Test)\\.(\\w+)`").matcher(page);
        int found = 0;
        while (test.find()) {
            found++;
            Path file = Path.of("src/test/java", test.group(1) + ".java");
            boolean there = Files.exists(file) && Files.readString(file).contains("void " + test.group(2) + "(");
            due.holds(test.group() + " is there", there);
        }
        due.holds("tests are named", found > 32);
        for (int promise = 1; promise <= 32; promise++) {
            due.holds("promise " + promise + " has its tests", page.contains("\n| " + promise + " "));
        }
    }
}
