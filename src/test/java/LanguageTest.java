import java.io.IOException;
import java.nio.file.Files;
import java.nio.file.Path;
import java.util.List;
import java.util.regex.Matcher;
import java.util.regex.Pattern;

/** What can be seen of ../shared/LANGUAGE.md in the text of the class alone; it does not take the place of reading. */
final class LanguageTest {
    private static final Check CHECK = new Check();
    private static final List<String> IMPORTS = List.of("java.util.ArrayList", "java.util.Arrays", "java.util.List",
            "java.util.NoSuchElementException", "java.util.Iterator");
    private static final Pattern LEFT_OUT = Pattern.compile("->|::|\\b(package|finally|synchronized|assert|Thread"
            + "|getMessage|\\w+Exact|System\\.(?!arraycopy)\\w+)\\b");
    private static final Pattern DIVIDED_BY = Pattern.compile("[/%]=? (?:\\(double\\) )?([\\w.]+(?:\\(.*\\))?)");
    private static final int MOST_ROWS = 60;

    public static void main(String[] args) throws IOException {
        String text = Files.readString(Path.of("src/main/java/StormBasin.java"));
        CHECK.same("signs are 1 to 127", text.chars().allMatch(sign -> sign >= 1 && sign <= 127), true);
        String code = text.replaceAll("(?s)/\\*.*?\\*/", "").replaceAll("//.*", "").replaceAll("\"[^\"]*\"", "\"\"");
        imports(code);
        leftOut(code);
        // No method has an empty row inside it, and one stands between any two.
        for (String method : code.split("\n\\s*\n")) {
            CHECK.same("too long: " + method, method.lines().count() > MOST_ROWS, false);
            divisors(method);
        }
        CHECK.end();
    }

    private static void imports(String code) {
        code.lines().filter(row -> row.startsWith("import ")).forEach(row -> {
            String name = row.substring("import ".length(), row.length() - 1);
            CHECK.same(row + " is in the language", IMPORTS.contains(name), true);
        });
    }

    private static void leftOut(String code) {
        Matcher found = LEFT_OUT.matcher(code);
        while (found.find()) {
            CHECK.same(found.group() + " is in the language", false, true);
        }
    }

    /** Before a method divides, it tests the divisor: it compares it with 0. */
    private static void divisors(String method) {
        Matcher division = DIVIDED_BY.matcher(method);
        while (division.find()) {
            String divisor = division.group(1);
            String before = method.substring(0, division.start());
            boolean isTested = before.contains(divisor + " > 0") || before.contains(divisor + " == 0");
            CHECK.same(divisor + " is tested before it divides in" + method, isTested, true);
        }
    }
}
