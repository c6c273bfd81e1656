import java.io.IOException;
import java.io.UncheckedIOException;
import java.nio.file.Files;
import java.nio.file.Path;

/** What the tests of the project compare with: each prints what is wrong and counts it. */
final class Check {
    interface Call {
        Object answer();
    }

    private static final Path DOCUMENT = Path.of("../shared/DOC.md");

    private static int checks = 0;
    private static int wrong = 0;
    private static String document = null;
    private static String sentence = "";

    private Check() {}

    /**
     * Words of the document, which are printed ahead of all that is wrong from now on. That they
     * stand there is checked, so that a test of words that are no more there does not go unseen.
     */
    static void promised(String words) {
        sentence = "\"" + words + "\" ";
        yes("stands in the document", document().contains(words));
    }

    private static String document() {
        if (document == null) {
            try {
                document = Files.readString(DOCUMENT);
            } catch (IOException e) {
                throw new UncheckedIOException(e);
            }
        }
        return document;
    }

    static void same(String what, Object due, Object got) {
        checks++;
        if (!due.equals(got)) {
            wrong++;
            System.out.println(sentence + what + ": answered " + got + ", due is " + due);
        }
    }

    static void is(String what, long due, long got) {
        same(what, due, got);
    }

    static void yes(String what, boolean got) {
        same(what, true, got);
    }

    /** The very class counts: a class below it would be one that the machine throws. */
    static void refuses(String what, Class<? extends RuntimeException> due, Call call) {
        same(what, "throws " + due.getName(), outcome(call));
    }

    static Object outcome(Call call) {
        try {
            return call.answer();
        } catch (RuntimeException e) {
            return "throws " + e.getClass().getName();
        }
    }

    static void end() {
        System.out.println(checks + " checks, " + wrong + " wrong");
        if (wrong != 0) {
            System.exit(1);
        }
    }
}
