import java.io.IOException;
import java.nio.file.Files;
import java.nio.file.Path;
import java.util.List;
import java.util.regex.Matcher;
import java.util.regex.Pattern;

/** Rules of ../shared/LANGUAGE.md that the text of CardTerminal.java shows. */
final class LanguageTest {
    static String source = "src/main/java/CardTerminal.java";

    private LanguageTest() {
    }

    private static String text() throws IOException {
        return Files.readString(Path.of(source));
    }

    private static String code() throws IOException {
        return text().replaceAll("(?s)/\\*.*?\\*/", " ").replaceAll("//[^\\n]*", " ");
    }

    static void noForbiddenWords() throws IOException {
        String code = code();
        for (String word : List.of("throw", "throws", "try", "catch", "finally", "synchronized", "assert",
            "protected", "package", "import", "System", "Thread", "Random", "Object", "volatile", "transient",
            "native", "var", "yield", "equals", "hashCode", "toString")) {
            Matcher found = Pattern.compile("\\b" + word + "\\b").matcher(code);
            Checks.isTrue("the word " + word, !found.find());
        }
        Checks.isTrue("a lambda", !code.contains("->"));
        Checks.isTrue("a method reference", !code.contains("::"));
        Checks.isTrue("an exact function", !code.contains("Exact"));
    }

    static void onlyPlainSigns() throws IOException {
        String text = text();
        for (int i = 0; i < text.length(); i++) {
            char sign = text.charAt(i);
            if (sign < 1 || sign > 127) {
                Checks.isTrue("sign " + (int) sign + " at " + i, false);
            }
        }
        Checks.isTrue("the file is empty", !text.isEmpty());
    }

    /** Rows are read and written in at() and put() alone, behind a test of the index. */
    static void rowsAreIndexedInTwoPlacesOnly() throws IOException {
        Matcher index = Pattern.compile("\\w\\[[^\\]]+\\]").matcher(code().replaceAll("new int\\[[^\\]]+\\]", ""));
        int uses = 0;
        while (index.find()) {
            uses++;
            Checks.isTrue(index.group(), index.group().equals("w[index]"));
        }
        Checks.due("places where a row is indexed", uses, 2);
    }

    static void noDivision() throws IOException {
        String code = code();
        Checks.isTrue("a division", !code.contains("/") && !code.contains("%"));
    }
}
