import java.io.ByteArrayOutputStream;
import java.io.IOException;
import java.io.PrintStream;
import java.net.URL;
import java.net.URLClassLoader;
import java.nio.file.Files;
import java.nio.file.Path;
import java.util.Comparator;
import java.util.List;
import java.util.regex.Matcher;
import java.util.regex.Pattern;
import java.util.stream.Stream;
import javax.tools.JavaCompiler;
import javax.tools.ToolProvider;

/** README.md says all that the document promises, in its words, and its program prints what it says. */
public final class ReadmeTest {
    private static String document;
    private static String readme;

    public static void main(String[] args) throws Exception {
        document = Files.readString(Path.of("../shared/DOC.md"));
        readme = Files.readString(Path.of("README.md"));
        termsAreSaid();
        stepsAreSaid();
        promisesAreSaid();
        testsAreSaid();
        exampleRuns();
        Check.end();
    }

    private static String between(String text, String from, String to) {
        int begin = text.indexOf(from);
        int end = begin < 0 ? -1 : text.indexOf(to, begin + from.length());
        Check.yes("there is text from " + from + " to " + to, end >= 0);
        return end < 0 ? "" : text.substring(begin + from.length(), end);
    }

    private static String onOneLine(String text) {
        return text.replaceAll("\\s+", " ").trim();
    }

    private static void sentencesStandIn(String where, String place, String text) {
        for (String paragraph : text.split("\n\n")) {
            for (String sentence : onOneLine(paragraph).split("(?<=\\.) ")) {
                Check.yes(where + " says: " + sentence, onOneLine(place).contains(sentence));
            }
        }
    }

    private static void termsAreSaid() {
        sentencesStandIn("README", readme, between(document, "## What it is\n\n", "\n\n## The public face"));
        String terms = between(document, "## Terms\n\n", "\n\n## Promise 1:");
        sentencesStandIn("README", readme, terms.replaceAll("(?s)```text.*?```", ""));
    }

    private static void stepsAreSaid() {
        String steps = between(document, "```text\n", "```");
        Matcher step = Pattern.compile("(\\d [A-Z ]+): ([^.]*)\\.").matcher(steps);
        int found = 0;
        while (step.find()) {
            found++;
            String row = "| " + step.group(1) + " | " + step.group(2) + " |";
            Check.yes("README has the row " + row, readme.contains(row));
        }
        Check.is("steps of the document", 8, found);
        String ofWholes = "(3 to 5: infinities, 0 and -0 are themselves; a 0 that comes of a number below 0 is -0.)";
        Check.yes("the document says: " + ofWholes, document.contains(ofWholes));
        Check.yes("README says: " + ofWholes, readme.contains(ofWholes));
    }

    /** Each member has a section of its own, whose heading is the member without its throws. */
    private static void promisesAreSaid() {
        Matcher promise = Pattern.compile("## Promise \\d+: .*\n\n`([^`]*\\))[^`]*`: (.*)\n").matcher(document);
        int found = 0;
        while (promise.find()) {
            found++;
            String heading = "### `" + promise.group(1) + "`";
            sentencesStandIn("README under " + heading, between(readme, heading + "\n", "\n##"), promise.group(2));
        }
        Check.is("promises of the document", 13, found);
    }

    private static void testsAreSaid() throws IOException {
        String tests = readme.substring(Math.max(0, readme.indexOf("\n## Tests\n")));
        Check.yes("README tells the command", tests.contains("\n    .ci/run\n"));
        Check.yes("the command is there", Files.isExecutable(Path.of(".ci/run")));
        try (Stream<Path> files = Files.list(Path.of("src/test/java"))) {
            files.map(file -> file.getFileName().toString()).filter(name -> name.endsWith("Test.java")).forEach(name ->
                    Check.yes("README tells of " + name, tests.contains("`" + name.replace(".java", "") + "`")));
        }
    }

    private static void exampleRuns() throws Exception {
        String program = between(readme, "```java\n", "```");
        String due = between(readme, "```text\n", "```");
        Path place = Files.createTempDirectory("readme");
        try {
            Path source = Files.writeString(place.resolve("Example.java"), program);
            JavaCompiler compiler = ToolProvider.getSystemJavaCompiler();
            int failures = compiler.run(null, null, null, "-cp", System.getProperty("java.class.path"),
                    "-d", place.toString(), source.toString());
            Check.is("README's program compiles", 0, failures);
            if (failures == 0) {
                Check.same("README's program", due.lines().toList(), printed(place));
            }
        } finally {
            remove(place);
        }
    }

    private static List<String> printed(Path place) throws Exception {
        PrintStream before = System.out;
        ByteArrayOutputStream bytes = new ByteArrayOutputStream();
        try (URLClassLoader loader = new URLClassLoader(new URL[] {place.toUri().toURL()});
                PrintStream out = new PrintStream(bytes, true)) {
            System.setOut(out);
            loader.loadClass("Example").getMethod("main", String[].class).invoke(null, (Object) new String[0]);
        } finally {
            System.setOut(before);
        }
        return bytes.toString().lines().toList();
    }

    private static void remove(Path place) throws IOException {
        try (Stream<Path> files = Files.walk(place)) {
            for (Path file : files.sorted(Comparator.reverseOrder()).toList()) {
                Files.delete(file);
            }
        }
    }
}
