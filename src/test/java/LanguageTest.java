import java.nio.file.Files;
import java.nio.file.Path;
import java.util.List;
import java.util.regex.Matcher;
import java.util.regex.Pattern;

/** The rules of LANGUAGE.md that can be seen in the text of the program. Run from the project's root. */
public final class LanguageTest {
    private static final Due due = new Due();
    private static final Path PROGRAM = Path.of("src/main/java/QuarrelWalls.java");

    public static void main(String[] args) throws Exception {
        String text = Files.readString(PROGRAM);
        String code = withoutComments(text);
        signs(text);
        words(code);
        library(code);
        divisors(code);
        divisorsAreLookedAt(code);
        casts(code);
        lengths(code);
        shortMethods(text);
        due.end();
    }

    private static String withoutComments(String text) {
        return text.replaceAll("(?s)/\\*.*?\\*/", "").replaceAll("//[^\n]*", "");
    }

    private static void signs(String text) {
        boolean plain = true;
        for (char sign : text.toCharArray()) {
            plain &= sign < 127;
        }
        due.holds("signs below 127 alone", plain);
    }

    /** No package, no library by name, nothing of rules 2, 6, 12 and 13 that the program does without. */
    private static void words(String code) {
        String[] none = {"package", "import", "try", "catch", "finally", "throw", "throws", "synchronized", "assert", "volatile", "transient",
            "native", "protected", "instanceof", "double", "float", "Object", "Thread", "Random", "super", "null"};
        for (String word : none) {
            due.holds("no '" + word + "'", !Pattern.compile("\\b" + word + "\\b").matcher(code).find());
        }
        due.holds("no lambda", !code.contains("->"));
        due.holds("no method reference", !code.contains("::"));
        due.holds("no static block", !Pattern.compile("static\\s*\\{").matcher(code).find());
    }

    /** What stands behind a name in capitals and a point, and what is asked of a text: rule 4. */
    private static void library(String code) {
        List<String> allowed = List.of("Math.max", "Math.min", "System.arraycopy", "Integer.bitCount", "KIND_LETTERS.indexOf");
        Matcher call = Pattern.compile("\\b([A-Z]\\w*\\.\\w+)").matcher(code);
        int found = 0;
        while (call.find()) {
            found++;
            due.holds(call.group(1) + " is of the library's part that is used", allowed.contains(call.group(1)));
        }
        due.holds("some were found", found > 0);
    }

    /** A divisor is a number that is not 0, a constant, or the YEAR, which is looked at first. */
    private static void divisors(String code) {
        Matcher divided = Pattern.compile("[/%]=?\\s*(\\w+)").matcher(code);
        int found = 0;
        while (divided.find()) {
            found++;
            String by = divided.group(1);
            due.holds("divisor " + by, by.matches("[1-9]\\d*|KNOWN_STEPS|QUARREL_OF_A_COURSE|year"));
        }
        due.holds("some were found", found > 0);
    }

    private static void divisorsAreLookedAt(String code) {
        due.holds("the YEAR is looked at where it divides", code.contains("year <= 0 ? 1 : year - now.week % year"));
        due.due("and divides there alone", code.split("% year").length, 2);
    }

    /** Casts among numbers alone, none of an object. */
    private static void casts(String code) {
        Matcher cast = Pattern.compile("\\((\\w+)\\)\\s*\\w").matcher(code);
        while (cast.find()) {
            due.holds("cast to " + cast.group(1), cast.group(1).matches("byte|short|int|long|char"));
        }
    }

    /** A new row is as long as a constant: no length can be below 0. */
    private static void lengths(String code) {
        Matcher row = Pattern.compile("new (\\w+)\\[([^\\]]*)\\]").matcher(code);
        int found = 0;
        while (row.find()) {
            found++;
            due.holds("a row of " + row.group(2), row.group(2).matches("[A-Z_]+"));
        }
        due.holds("some were found", found > 0);
    }

    /** "Methods stay short (some sixty lines)": rule 11. */
    private static void shortMethods(String text) {
        Matcher method = Pattern.compile("(?m)^( +)\\w[\\w<>\\[\\] ]* \\w+\\([\\w\\[\\], ]*\\) \\{$").matcher(text);
        int found = 0;
        while (method.find()) {
            found++;
            int end = text.indexOf("\n" + method.group(1) + "}\n", method.end());
            int lines = text.substring(method.start(), end).split("\n").length;
            due.holds(method.group().trim() + " has " + lines + " lines", lines <= 60);
        }
        due.holds("all methods were found: " + found, found > 31);
    }
}
