import java.io.ByteArrayOutputStream;
import java.io.IOException;
import java.io.PrintStream;
import java.lang.reflect.Method;
import java.lang.reflect.Modifier;
import java.net.URL;
import java.net.URLClassLoader;
import java.nio.charset.StandardCharsets;
import java.nio.file.Files;
import java.nio.file.Path;

/** The example of README.md, taken from there, compiled and run: it prints what README.md says it does. */
public final class ReadmeTest {
    private ReadmeTest() {
    }

    public static void main(String[] args) throws IOException, InterruptedException, ReflectiveOperationException {
        String root = System.getenv("HILLTAP_ROOT");
        String readme = Files.readString(Path.of(root == null ? "." : root, "README.md"));
        String code = block(readme, "```java\n", 0);
        String due = block(readme, "```text\n", readme.indexOf(code));
        Path place = Files.createTempDirectory("readme");
        String[] got = printedBy(code, place).split("\n");
        String[] want = due.split("\n");
        Due.is("lines that the example prints", got.length, want.length);
        for (int i = 0; i < Math.min(got.length, want.length); i++) {
            Due.yes("the example prints «" + got[i] + "», README.md says «" + want[i] + "»", got[i].equals(want[i]));
        }
        everyCallIsNamed(readme);
        Due.end();
    }

    private static String block(String readme, String opening, int from) {
        int begin = readme.indexOf(opening, from) + opening.length();
        int end = readme.indexOf("```", begin);
        Due.yes("README.md has a block " + opening.trim(), begin >= opening.length() && end > begin);
        return readme.substring(begin, Math.max(begin, end));
    }

    private static String printedBy(String code, Path place) throws IOException, InterruptedException, ReflectiveOperationException {
        Path source = place.resolve("Example.java");
        Files.writeString(source, code);
        String classes = System.getProperty("java.class.path");
        Process javac = new ProcessBuilder("javac", "-cp", classes, "-d", place.toString(), source.toString()).inheritIO().start();
        Due.is("javac of README.md's example", javac.waitFor(), 0);
        PrintStream out = System.out;
        ByteArrayOutputStream printed = new ByteArrayOutputStream();
        try (URLClassLoader loader = new URLClassLoader(new URL[] {place.toUri().toURL()})) {
            System.setOut(new PrintStream(printed, true, StandardCharsets.UTF_8));
            loader.loadClass("Example").getMethod("main", String[].class).invoke(null, (Object) new String[0]);
        } finally {
            System.setOut(out);
            Files.deleteIfExists(source);
            Files.deleteIfExists(place.resolve("Example.class"));
            Files.deleteIfExists(place);
        }
        return printed.toString(StandardCharsets.UTF_8).replace("\r", "");
    }

    private static void everyCallIsNamed(String readme) {
        String calls = readme.substring(Math.max(0, readme.indexOf("## The calls")));
        for (Method m : HillTap.class.getDeclaredMethods()) {
            if (Modifier.isPublic(m.getModifiers())) {
                Due.yes("README.md names " + m.getName() + "()", calls.contains("`" + m.getName() + "("));
            }
        }
    }
}
