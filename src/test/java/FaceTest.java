import java.io.IOException;
import java.lang.reflect.Constructor;
import java.lang.reflect.Method;
import java.lang.reflect.Modifier;
import java.nio.file.Files;
import java.nio.file.Path;
import java.util.Arrays;
import java.util.List;
import java.util.Set;
import java.util.TreeSet;
import java.util.regex.Matcher;
import java.util.regex.Pattern;
import java.util.stream.Collectors;

/** The document's face, no more and no less, and words that LANGUAGE.md leaves out. */
public final class FaceTest {
    private static final String[] LEFT_OUT = {"\\bFloat\\.", "\\bDouble\\.", "\\bStrictMath\\b", "\\bSystem\\.(?!arraycopy)", "->",
        "::", "\\btry\\b", "\\bcatch\\b", "\\bfinally\\b", "\\bassert\\b", "\\bsynchronized\\b", "\\bpackage\\b\\s+\\w+;",
        "Exact\\b", "\\bObjects\\b", "\\bprotected\\b"};

    public static void main(String[] args) throws IOException {
        Class<WeatherMast> type = WeatherMast.class;
        Check.yes("public and final", Modifier.isPublic(type.getModifiers()) && Modifier.isFinal(type.getModifiers()));
        Set<String> seen = new TreeSet<>();
        Set<String> names = new TreeSet<>();
        for (Method method : type.getDeclaredMethods()) {
            if (Modifier.isPrivate(method.getModifiers())) {
                Check.yes("private, with a name of its own: " + method, names.add(method.getName()));
            } else {
                seen.add(method.toString());
            }
        }
        for (String name : names) {
            Check.yes("no public name: " + name, seen.stream().noneMatch(face -> face.contains("." + name + "(")));
        }
        Check.same("methods", methodsOfTheDocument(), seen);
        Constructor<?>[] constructors = type.getDeclaredConstructors();
        Check.is("constructors", 1, constructors.length);
        Check.same("constructor", "public WeatherMast()", constructors[0].toString());
        Arrays.stream(type.getDeclaredFields()).forEach(field ->
                Check.yes("private: " + field, Modifier.isPrivate(field.getModifiers())));
        for (Class<?> inner : type.getDeclaredClasses()) {
            Check.yes("static: " + inner, Modifier.isStatic(inner.getModifiers()));
            Check.yes("not for all: " + inner, (inner.getModifiers() & (Modifier.PUBLIC | Modifier.PROTECTED)) == 0);
            for (Method method : inner.getDeclaredMethods()) {
                Check.yes("no public name: " + method, seen.stream().noneMatch(face -> face.contains("." + method.getName() + "(")));
            }
        }
        String source = Files.readString(Path.of("src/main/java/WeatherMast.java"));
        for (String words : LEFT_OUT) {
            Check.yes("the source has no " + words, !Pattern.compile(words).matcher(source).find());
        }
        namesOfParameters(source);
        Check.end();
    }

    /** The document's block of the face: all lines inside the class. */
    private static List<String> face() throws IOException {
        String document = Files.readString(Path.of("../shared/DOC.md"));
        Matcher block = Pattern.compile("(?s)public final class WeatherMast \\{\n(.*?)\n\\}").matcher(document);
        Check.yes("the document has the face", block.find());
        return block.group(1).lines().map(String::trim).toList();
    }

    /** As reflection tells a method: without names of parameters, and with whole names of classes. */
    private static Set<String> methodsOfTheDocument() throws IOException {
        Set<String> methods = new TreeSet<>();
        for (String line : face()) {
            Matcher method = Pattern.compile("public (\\w+) (\\w+)\\(([^)]*)\\)(?: throws (.*))?;").matcher(line);
            if (method.matches()) {
                String types = method.group(3).replaceAll("(\\w+) \\w+", "$1").replace(" ", "");
                String thrown = method.group(4) == null ? "" : " throws " + wholeNames(method.group(4));
                methods.add("public " + method.group(1) + " WeatherMast." + method.group(2) + "(" + types + ")" + thrown);
            }
        }
        Check.is("methods of the document", 12, methods.size());
        return methods;
    }

    private static String wholeNames(String thrown) {
        return Arrays.stream(thrown.split(", "))
                .map(name -> (name.equals("NoSuchElementException") ? "java.util." : "java.lang.") + name)
                .collect(Collectors.joining(","));
    }

    private static void namesOfParameters(String source) throws IOException {
        String onOneLine = source.replaceAll("\\s+", " ");
        for (String line : face()) {
            Check.yes("the source has: " + line, onOneLine.contains(line.replace(";", " {")));
        }
    }
}
