import java.io.IOException;
import java.lang.reflect.Method;
import java.lang.reflect.Modifier;
import java.net.URL;
import java.net.URLClassLoader;
import java.nio.file.Files;
import java.nio.file.Path;
import java.util.ArrayList;
import java.util.Comparator;
import java.util.List;
import java.util.Set;
import java.util.TreeSet;
import java.util.regex.Matcher;
import java.util.regex.Pattern;
import java.util.stream.Stream;
import javax.tools.ToolProvider;

/** README.md: what it says holds as it stands there. */
final class ReadmeTest {
    private static final Pattern ANSWERED = Pattern.compile("(x\\..*);\\s+// ([A-Z_]+|-?\\d+)(?=:|;|$).*");

    private ReadmeTest() {
    }

    private static String text() throws IOException {
        return Files.readString(Path.of("README.md"));
    }

    private static List<String> example() throws IOException {
        Matcher block = Pattern.compile("(?s)```java\\n(.*?)```").matcher(text());
        return block.find() ? block.group(1).lines().toList() : List.of();
    }

    /** A call whose comment tells its answer notes down the call, the answer that it gives, and the one told. */
    private static String noting(String line) {
        Matcher m = ANSWERED.matcher(line);
        if (!m.matches()) {
            return line;
        }
        String want = m.group(2).matches("[A-Z_]+") ? "CardTerminal." + m.group(2) : m.group(2);
        return "notes.add(new Object[] {\"" + m.group(1) + "\", " + m.group(1) + ", " + want + "});";
    }

    private static String program() throws IOException {
        StringBuilder program = new StringBuilder("public final class ReadmeExample {\n");
        program.append("private ReadmeExample() {\n}\npublic static void run(java.util.List<Object[]> notes) {\n");
        for (String line : example()) {
            program.append(noting(line)).append('\n');
        }
        return program.append("}\n}\n").toString();
    }

    private static void delete(Path directory) throws IOException {
        List<Path> all;
        try (Stream<Path> walk = Files.walk(directory)) {
            all = walk.sorted(Comparator.reverseOrder()).toList();
        }
        for (Path one : all) {
            Files.delete(one);
        }
    }

    private static List<Object[]> run(Path directory) throws Exception {
        List<Object[]> notes = new ArrayList<>();
        URL[] places = {directory.toUri().toURL()};
        try (URLClassLoader loader = new URLClassLoader(places, ReadmeTest.class.getClassLoader())) {
            loader.loadClass("ReadmeExample").getMethod("run", List.class).invoke(null, notes);
        }
        return notes;
    }

    private static void compileAndRun(Path directory) throws Exception {
        Path source = directory.resolve("ReadmeExample.java");
        Files.writeString(source, program());
        // The class path is that of this test, on which CardTerminal is.
        int exit = ToolProvider.getSystemJavaCompiler().run(null, System.out, System.out,
            "-cp", System.getProperty("java.class.path"), "-d", directory.toString(), source.toString());
        Checks.due("javac of the example", exit, 0);
        if (exit == 0) {
            for (Object[] note : run(directory)) {
                Checks.due("README.md: " + note[0], (Integer) note[1], (Integer) note[2]);
            }
        }
    }

    static void exampleAnswersWhatItSays() throws Exception {
        Path directory = Files.createTempDirectory("readme");
        try {
            compileAndRun(directory);
        } finally {
            delete(directory);
        }
    }

    /** Or exampleAnswersWhatItSays would pass over it. */
    static void eachCallOfTheExampleTellsItsAnswer() throws IOException {
        int calls = 0;
        for (String line : example()) {
            if (line.startsWith("x.")) {
                calls++;
                Checks.isTrue("README.md does not tell the answer of: " + line, ANSWERED.matcher(line).matches());
            }
        }
        Checks.isTrue("README.md has an example", calls > 0);
    }

    static void namesEachCall() throws IOException {
        String text = text();
        for (Method method : CardTerminal.class.getDeclaredMethods()) {
            if (Modifier.isPublic(method.getModifiers())) {
                Checks.isTrue("README.md names " + method.getName(), text.contains("`" + method.getName() + "`"));
            }
        }
    }

    static void namesTheTestClassesThatThereAre() throws IOException {
        Set<String> named = new TreeSet<>();
        Matcher names = Pattern.compile("`(\\w+Test)`").matcher(text());
        while (names.find()) {
            named.add(names.group(1));
        }
        List<String> run = new ArrayList<>();
        for (Class<?> tests : AllTests.tests()) {
            run.add(tests.getSimpleName());
        }
        Checks.isTrue("README.md names " + named + ", run are " + run, named.equals(new TreeSet<>(run)));
    }

    /** A test class that AllTests does not know would never run. */
    static void eachTestClassIsRun() throws IOException {
        Set<String> run = new TreeSet<>();
        for (Class<?> tests : AllTests.tests()) {
            run.add(tests.getSimpleName() + ".java");
        }
        try (Stream<Path> files = Files.list(Path.of("src/test/java"))) {
            files.map(file -> file.getFileName().toString()).filter(name -> name.endsWith("Test.java"))
                .forEach(name -> Checks.isTrue(name + " is run", run.contains(name)));
        }
    }
}
