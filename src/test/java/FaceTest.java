import java.io.IOException;
import java.lang.reflect.Constructor;
import java.lang.reflect.Method;
import java.lang.reflect.Modifier;
import java.nio.file.Files;
import java.nio.file.Path;
import java.util.Arrays;
import java.util.Set;
import java.util.TreeSet;
import java.util.regex.Pattern;

/** The document's face, no more and no less, and words that LANGUAGE.md leaves out. */
public final class FaceTest {
    private static final String[] FACE = {
        "public int WeatherMast.mount(int) throws java.lang.IllegalArgumentException,java.lang.UnsupportedOperationException",
        "public int WeatherMast.step(int,int,long) throws java.lang.IndexOutOfBoundsException,java.lang.IllegalArgumentException,java.lang.IllegalStateException",
        "public int WeatherMast.follow(int,int,int) throws java.lang.IndexOutOfBoundsException,java.lang.IllegalArgumentException,java.lang.IllegalStateException",
        "public long WeatherMast.read(int,long) throws java.lang.IndexOutOfBoundsException,java.lang.IllegalArgumentException",
        "public long WeatherMast.reading(int,int) throws java.lang.IndexOutOfBoundsException,java.util.NoSuchElementException",
        "public long WeatherMast.tell(int,int) throws java.lang.IndexOutOfBoundsException,java.lang.IllegalArgumentException,java.util.NoSuchElementException",
        "public int WeatherMast.whole(int) throws java.lang.IndexOutOfBoundsException,java.util.NoSuchElementException",
        "public boolean WeatherMast.limits(int,long,long) throws java.lang.IndexOutOfBoundsException,java.lang.IllegalArgumentException",
        "public long WeatherMast.widest(int) throws java.lang.IllegalArgumentException,java.util.NoSuchElementException",
        "public int WeatherMast.forget(int) throws java.lang.IndexOutOfBoundsException",
        "public int WeatherMast.alarms(int) throws java.lang.IndexOutOfBoundsException",
        "public int WeatherMast.count(int)",
    };

    private static final String[] LEFT_OUT = {"\\bFloat\\.", "\\bDouble\\.", "\\bStrictMath\\b", "\\bSystem\\.(?!arraycopy)", "->",
        "::", "\\btry\\b", "\\bcatch\\b", "\\bfinally\\b", "\\bassert\\b", "\\bsynchronized\\b", "\\bpackage\\b\\s+\\w+;",
        "Exact\\b", "\\bObjects\\b", "\\bprotected\\b"};

    public static void main(String[] args) throws IOException {
        Class<WeatherMast> type = WeatherMast.class;
        Check.yes("public and final", Modifier.isPublic(type.getModifiers()) && Modifier.isFinal(type.getModifiers()));
        Set<String> seen = new TreeSet<>();
        Set<String> names = new TreeSet<>();
        for (Method method : type.getDeclaredMethods()) {
            if (Modifier.isPrivate(method.getModifiers())) {
                Check.yes("private, with a name of its own: " + method, names.add(method.getName()));
            } else {
                seen.add(method.toString());
            }
        }
        for (String name : names) {
            Check.yes("no public name: " + name, seen.stream().noneMatch(face -> face.contains("." + name + "(")));
        }
        Check.same("methods", new TreeSet<>(Arrays.asList(FACE)), seen);
        Constructor<?>[] constructors = type.getDeclaredConstructors();
        Check.is("constructors", 1, constructors.length);
        Check.same("constructor", "public WeatherMast()", constructors[0].toString());
        Arrays.stream(type.getDeclaredFields()).forEach(field ->
                Check.yes("private: " + field, Modifier.isPrivate(field.getModifiers())));
        Arrays.stream(type.getDeclaredClasses()).forEach(inner ->
                Check.yes("static: " + inner, Modifier.isStatic(inner.getModifiers())));
        String source = Files.readString(Path.of("src/main/java/WeatherMast.java"));
        for (String words : LEFT_OUT) {
            Check.yes("the source has no " + words, !Pattern.compile(words).matcher(source).find());
        }
        Check.end();
    }
}
