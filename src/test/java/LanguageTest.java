import java.io.IOException;
import java.nio.file.Files;
import java.nio.file.Path;
import java.util.List;
import java.util.regex.Matcher;
import java.util.regex.Pattern;

/** Rules of ../shared/LANGUAGE.md that the text of CardTerminal.java shows. */
final class LanguageTest {
    static String source = "src/main/java/CardTerminal.java";

    private LanguageTest() {
    }

    private static String text() throws IOException {
        return Files.readString(Path.of(source));
    }

    private static String code() throws IOException {
        return text().replaceAll("(?s)/\\*.*?\\*/", " ").replaceAll("//[^\\n]*", " ");
    }

    private static void without(String pattern) throws IOException {
        Matcher found = Pattern.compile(pattern).matcher(code());
        Checks.isTrue(pattern + " stands in the class", !found.find());
    }

    /** Rule 6. */
    static void noExceptions() throws IOException {
        for (String word : List.of("throw", "throws", "try", "catch", "finally", "synchronized", "assert")) {
            without("\\b" + word + "\\b");
        }
    }

    /** Rule 2. */
    static void noLambdas() throws IOException {
        String code = code().replaceAll("(case [^;{}]*?|default\\s*)->", " ");
        Checks.isTrue("a lambda", !code.contains("->"));
        without("::");
    }

    /** Rules 4 and 13. */
    static void noOtherLibrary() throws IOException {
        without("\\bpackage\\b");
        without("\\bimport (?!java\\.util\\.(ArrayList|List|Iterator|Arrays|\\*);)");
        without("\\bSystem\\.(?!arraycopy\\b)");
        without("\\b(Thread|Random|Runtime|Class|Object|Objects)\\b");
        without("Exact\\b");
    }

    /** Rule 3. */
    static void onlyPlainSigns() throws IOException {
        String text = text();
        for (int i = 0; i < text.length(); i++) {
            char sign = text.charAt(i);
            if (sign < 1 || sign > 127) {
                Checks.isTrue("sign " + (int) sign + " at " + i, false);
            }
        }
        Checks.isTrue("the file is empty", !text.isEmpty());
    }
}
