import java.io.IOException;
import java.nio.file.Files;
import java.nio.file.Path;
import java.util.List;
import java.util.regex.Matcher;
import java.util.regex.Pattern;

/** Rules of ../shared/LANGUAGE.md that the text of CardTerminal.java shows. */
final class LanguageTest {
    static String source = "src/main/java/CardTerminal.java";

    private LanguageTest() {
    }

    private static String text() throws IOException {
        return Files.readString(Path.of(source));
    }

    private static String code() throws IOException {
        return text().replaceAll("(?s)/\\*.*?\\*/", " ").replaceAll("//[^\\n]*", " ");
    }

    private static void without(String pattern) throws IOException {
        Matcher found = Pattern.compile(pattern).matcher(code());
        Checks.isTrue(pattern + " stands in the class", !found.find());
    }

    /** Rule 6. */
    static void noExceptions() throws IOException {
        for (String word : List.of("throw", "throws", "try", "catch", "finally", "synchronized", "assert")) {
            without("\\b" + word + "\\b");
        }
    }

    /** Rule 2. */
    static void noLambdas() throws IOException {
        String code = code().replaceAll("(case [^;{}]*?|default\\s*)->", " ");
        Checks.isTrue("a lambda", !code.contains("->"));
        without("::");
    }

    /** Rules 4 and 13. */
    static void noOtherLibrary() throws IOException {
        without("\\bpackage\\b");
        without("\\bimport (?!java\\.util\\.(ArrayList|List|Iterator|Arrays|\\*);)");
        without("\\bSystem\\.(?!arraycopy\\b)");
        without("\\b(Thread|Random|Runtime|Class|Object|Objects)\\b");
        without("Exact\\b");
    }

    /** Rule 3. */
    static void onlyPlainSigns() throws IOException {
        String text = text();
        for (int i = 0; i < text.length(); i++) {
            char sign = text.charAt(i);
            if (sign < 1 || sign > 127) {
                Checks.isTrue("sign " + (int) sign + " at " + i, false);
            }
        }
        Checks.isTrue("the file is empty", !text.isEmpty());
    }

    /** Rule 7: only at and put use an index, behind a test of it. */
    static void indexesAreTested() throws IOException {
        Matcher index = Pattern.compile("(\\w+)\\[([^\\]]+)\\]").matcher(code());
        int found = 0;
        while (index.find()) {
            if (!index.group(1).equals("int")) {
                found++;
                Checks.isTrue("an index besides at and put: " + index.group(), index.group().equals("row[index]"));
            }
        }
        Checks.due("uses of an index", found, 2);
        String test = "index >= 0 && index < row\\.length\\)? ";
        Checks.isTrue("at tests its index", Pattern.compile(test + "\\? row\\[index\\]").matcher(code()).find());
        Checks.isTrue("put tests its index", Pattern.compile(test + "\\{\\s+row\\[index\\] =").matcher(code()).find());
    }

    /** Rule 7: nothing to divide by, nothing that may be null, no cast. */
    static void noDivisionNoNullNoCast() throws IOException {
        without("[/%]");
        without("\\bnull\\b");
        without("\\((int|long|short|byte|char|[A-Z]\\w*)\\) ?[\\w(]");
    }

    /** Rule 12: all objects and rows are made by a constructor, so that no number of calls can fill the room. */
    static void noCallMakesAnObject() throws IOException {
        Pattern field = Pattern.compile("\\s*(private )?final .* = new .*;");
        Pattern inConstructor = Pattern.compile(" {8}\\w+ = new \\w+\\(\\);");
        for (String line : code().lines().toList()) {
            if (line.contains("new ")) {
                Checks.isTrue("made by a call: " + line,
                    field.matcher(line).matches() || inConstructor.matcher(line).matches());
            }
        }
        Checks.isTrue("rows are made", code().contains("new int["));
    }

    /** Rule 11: some sixty lines at most. */
    static void methodsAreShort() throws IOException {
        Matcher method = Pattern.compile("(?m)^( {4}| {8})\\w[\\w\\[\\] ]*\\(.*\\) \\{\\n(?s:(.*?))\\n\\1\\}").matcher(text());
        int methods = 0;
        while (method.find()) {
            methods++;
            Checks.isTrue("too long: " + method.group(), method.group(2).lines().count() <= 60);
        }
        Checks.isTrue("methods are found", methods > 60);
    }
}
