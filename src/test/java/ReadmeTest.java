import java.io.IOException;
import java.lang.reflect.Method;
import java.lang.reflect.Modifier;
import java.math.BigDecimal;
import java.nio.file.DirectoryStream;
import java.nio.file.Files;
import java.nio.file.Path;
import java.util.ArrayList;
import java.util.List;
import java.util.Set;
import java.util.TreeSet;
import java.util.regex.Matcher;
import java.util.regex.Pattern;

/** README.md: its example answers what it says, and its tables name every call and every test. */
public final class ReadmeTest {
    private static final String COMMENT = "// ";

    public static void main(String[] args) throws IOException {
        String readme = Files.readString(Path.of("README.md"));
        Due.says("README.md says how to use the class");
        theExampleHolds(linesWithComments(readme));
        theTableHasEveryCall(readme);
        Due.says("README.md says how to run its tests");
        theTableHasEveryTest(readme);
        Due.end();
    }

    private static List<String> linesWithComments(String readme) {
        int start = readme.indexOf("```java");
        String block = readme.substring(start, readme.indexOf("```", start + 3));
        List<String> lines = new ArrayList<>();
        for (String line : block.split("\n")) {
            if (line.contains(COMMENT)) {
                lines.add(line);
            }
        }
        return lines;
    }

    /** The example's next line is this code, and its comment begins with what the code answered. */
    private static void line(List<String> lines, String code, String answer) {
        String line = lines.isEmpty() ? "" : lines.remove(0);
        int at = Math.max(line.indexOf(COMMENT), 0);
        Due.same("the code of the line " + line, line.substring(0, at).trim(), code);
        Matcher first = Pattern.compile(COMMENT + Pattern.quote(answer) + "($|[,: ])").matcher(line);
        Due.same("that " + code + " is " + answer + " is said by " + line, first.find() ? 1 : 0, 1);
    }

    private static void theExampleHolds(List<String> lines) {
        Run x = new Run();
        long tenth = Double.doubleToRawLongBits(0.1);
        String exact = new BigDecimal(0.1).toPlainString().substring(0, 36);
        line(lines, "x.set(Double.doubleToRawLongBits(0.1));", x.set(tenth) + " digits: " + exact + "...");
        Due.same("0.1", plain(x), new BigDecimal(0.1).toPlainString());
        line(lines, "x.look(16);", x.look(16) + ", the 17th digit");
        line(lines, "x.look(17);", x.look(17) + ", the 18th");
        line(lines, "x.enough();", x.enough() + " digit");
        Due.same("0.1, enough(), nearest()", x.nearest(), tenth);
        line(lines, "x.count(1);", x.count(1) + ", the place: it is " + plain(x));
        x.clear(true, 3);
        line(lines, "x.clear(true, 3);", plain(x));
        Due.type(x, "125");
        line(lines, "x.digit(1); x.digit(2); x.digit(5);", plain(x));
        Due.type(x, "05");
        line(lines, "x.digit(0); x.digit(5);", plain(x));
        line(lines, "x.places(1);", x.places(1) + " digits: " + plain(x));
        line(lines, "x.round(2);", x.round(2) + " digits: " + plain(x));
        line(lines, "x.nearest();", "the bits of " + Double.longBitsToDouble(x.nearest()));
        line(lines, "x.round(801);", Due.thrownBy(() -> x.round(801)) + ", and " + plain(x) + " stays");
        Due.same("lines of the example that were not looked at", lines.toString(), "[]");
    }

    private static String plain(Run x) {
        String kept = x.kept();
        return kept.equals("-0.e0") ? "-0" : new BigDecimal(kept).toPlainString();
    }

    private static void theTableHasEveryCall(String readme) {
        for (Method method : DecimalTruth.class.getDeclaredMethods()) {
            if (Modifier.isPublic(method.getModifiers())) {
                String name = method.getName();
                Matcher row = Pattern.compile("(?m)^\\| `" + name + "\\(.*$").matcher(readme);
                Due.same("a row for " + name, row.find() ? 1 : 0, 1);
                Due.same("what the row for " + name + " throws", thrownIn(row.group()), thrownBy(method));
            }
        }
    }

    private static String thrownIn(String row) {
        return matches("\\b([A-Za-z]+Exception)\\b", row).toString();
    }

    private static String thrownBy(Method method) {
        Set<String> names = new TreeSet<>();
        for (Class<?> thrown : method.getExceptionTypes()) {
            names.add(thrown.getSimpleName());
        }
        return names.toString();
    }

    private static void theTableHasEveryTest(String readme) throws IOException {
        Set<String> tests = new TreeSet<>();
        try (DirectoryStream<Path> files = Files.newDirectoryStream(Path.of("src/test/java"), "*Test.java")) {
            for (Path file : files) {
                tests.add(file.getFileName().toString().replace(".java", ""));
            }
        }
        Due.same("the tests that are named", matches("`([A-Za-z]+Test)`", readme).toString(), tests.toString());
    }

    private static Set<String> matches(String pattern, String text) {
        Set<String> found = new TreeSet<>();
        Matcher matcher = Pattern.compile(pattern).matcher(text);
        while (matcher.find()) {
            found.add(matcher.group(1));
        }
        return found;
    }
}
