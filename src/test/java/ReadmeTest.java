import java.io.IOException;
import java.lang.reflect.Method;
import java.lang.reflect.Modifier;
import java.net.URL;
import java.net.URLClassLoader;
import java.nio.file.Files;
import java.nio.file.Path;
import java.util.Comparator;
import java.util.List;
import java.util.Map;
import java.util.TreeMap;
import java.util.TreeSet;
import java.util.regex.Matcher;
import java.util.regex.Pattern;
import java.util.stream.Collectors;
import java.util.stream.Stream;
import javax.tools.ToolProvider;

/** README.md tells of each call what it takes, answers and throws, how the tests are run, and its example works. */
public final class ReadmeTest {
    private static final Check CHECK = new Check();
    private static final Pattern THROWN = Pattern.compile("`([A-Za-z]+Exception)`");

    public static void main(String[] args) throws IOException, ReflectiveOperationException {
        String readme = Files.readString(Path.of(System.getProperty("project", "."), "README.md"));
        calls(readme);
        CHECK.yes("how the tests are run", readme.contains("\n## Tests\n\n    .ci/run\n"));
        Path work = Files.createTempDirectory("readme");
        try {
            example(readme, work);
        } finally {
            remove(work);
        }
        CHECK.end();
    }

    /** The text below each heading that is a call, under the call without the names of what it takes. */
    private static Map<String, String> sections(String readme) {
        Map<String, String> sections = new TreeMap<>();
        for (String section : readme.split("\n##+ ")) {
            Matcher heading = Pattern.compile("`([^`(]+)\\(([^)]*)\\)`\n").matcher(section);
            if (heading.lookingAt()) {
                String types = heading.group(2).replaceAll("([a-z]+) [a-z]+", "$1");
                sections.put(heading.group(1) + "(" + types + ")", section.substring(heading.end()));
            }
        }
        return sections;
    }

    private static void calls(String readme) {
        Map<String, String> sections = sections(readme);
        CHECK.yes("the constructor", sections.getOrDefault("TrustChain()", "").contains("Throws nothing."));
        sections.remove("TrustChain()");
        for (Method method : TrustChain.class.getDeclaredMethods()) {
            if (Modifier.isPublic(method.getModifiers())) {
                String types = Stream.of(method.getParameterTypes()).map(Class::getName).collect(Collectors.joining(", "));
                String call = method.getReturnType() + " " + method.getName() + "(" + types + ")";
                call(call, sections.getOrDefault(call, ""), method.getExceptionTypes());
                sections.remove(call);
            }
        }
        CHECK.sameText("calls that there are not", sections.keySet().toString(), "[]");
    }

    private static void call(String call, String section, Class<?>[] thrown) {
        CHECK.yes(call + ": what it takes", section.contains("- Takes "));
        CHECK.yes(call + ": what it answers", section.contains("- Answers"));
        TreeSet<String> told = new TreeSet<>();
        THROWN.matcher(section).results().forEach(found -> told.add(found.group(1)));
        TreeSet<String> due = new TreeSet<>();
        Stream.of(thrown).forEach(kind -> due.add(kind.getSimpleName()));
        CHECK.sameText(call + ": what it throws", told.toString(), due.toString());
        CHECK.yes(call + ": what it throws", section.contains(due.isEmpty() ? "Throws nothing." : "Throws `"));
    }

    private static void example(String readme, Path work) throws IOException, ReflectiveOperationException {
        Matcher block = Pattern.compile("```java\n(.*?)```", Pattern.DOTALL).matcher(readme);
        CHECK.yes("an example", block.find());
        Path source = Files.writeString(work.resolve("Example.java"), block.group(1));
        String path = System.getProperty("java.class.path");
        int refused = ToolProvider.getSystemJavaCompiler().run(null, null, null, "-proc:none", "-Xlint:all", "-Werror", "-cp",
            path, "-d", work.toString(), source.toString());
        CHECK.same("the example is refused", refused, 0);
        try (URLClassLoader loader = new URLClassLoader(new URL[] {work.toUri().toURL()})) {
            Method way = loader.loadClass("Example").getDeclaredMethod("way", byte[].class, byte[].class, long.class);
            way.setAccessible(true);
            Key key = Key.small(1);
            byte[] root = new Maker("root", key, "root", key).certificate();
            byte[] leaf = new Maker("leaf", Key.small(2), "root", key).certificate();
            byte[] other = new Maker("leaf", Key.small(2), "other", key).certificate();
            CHECK.sameText("a chain", "" + way.invoke(null, root, leaf, Maker.NOON_2020), "1 is issued by 0");
            CHECK.sameText("a fault", "" + way.invoke(null, root, leaf, 0L), "fault 2 at 1");
            CHECK.sameText("no chain", "" + way.invoke(null, root, other, Maker.NOON_2020), "no chain");
        }
    }

    private static void remove(Path work) throws IOException {
        try (Stream<Path> all = Files.walk(work)) {
            List<Path> files = all.sorted(Comparator.reverseOrder()).toList();
            for (Path file : files) {
                Files.delete(file);
            }
        }
    }
}
