import java.io.ByteArrayOutputStream;
import java.io.PrintStream;
import java.lang.reflect.Field;
import java.lang.reflect.Method;
import java.lang.reflect.Modifier;
import java.net.URL;
import java.net.URLClassLoader;
import java.nio.charset.StandardCharsets;
import java.nio.file.Files;
import java.nio.file.Path;
import java.util.Comparator;
import java.util.List;
import java.util.stream.Stream;
import javax.tools.ToolProvider;

// What README.md says holds: its program compiles and prints what stands there, and it names
// every call, every constant, and how the tests are run.
public final class ReadmeTest {
    private static final Path README = Path.of("README.md");

    public static void main(String[] args) throws Exception {
        String text = Files.readString(README, StandardCharsets.US_ASCII);
        theProgramPrintsWhatItSays(text);
        everyCallIsNamed(text);
        everyConstantIsNamed(text);
        theTestsAreRunAsItSays(text);
        Checks.end();
    }

    // The first block of a language; empty if there is none.
    private static String block(String text, String language) {
        String fence = "```" + language + "\n";
        int start = text.indexOf(fence);
        if (start < 0) return "";
        int end = text.indexOf("```", start + fence.length());
        return end < 0 ? "" : text.substring(start + fence.length(), end);
    }

    private static void theProgramPrintsWhatItSays(String text) throws Exception {
        Path work = Files.createTempDirectory("readme");
        try {
            Path file = work.resolve("Supper.java");
            Files.writeString(file, block(text, "java"));
            int compiled = ToolProvider.getSystemJavaCompiler().run(null, null, null,
                "-Xlint:all", "-Werror", "--release", "17", "-cp", System.getProperty("java.class.path"),
                "-d", work.toString(), file.toString());
            Checks.due("README's program compiles", compiled, 0);
            List<String> due = block(text, "text").lines().toList();
            List<String> printed = printedBy(work).lines().toList();
            Checks.holds("README's program prints something", !due.isEmpty());
            Checks.due("lines that README's program prints", printed.size(), due.size());
            for (int i = 0; i < Math.min(due.size(), printed.size()); i++) {
                Checks.holds("README says: " + due.get(i) + "; its program prints: " + printed.get(i),
                    due.get(i).equals(printed.get(i)));
            }
        } finally {
            remove(work);
        }
    }

    private static String printedBy(Path work) throws Exception {
        ByteArrayOutputStream bytes = new ByteArrayOutputStream();
        PrintStream out = System.out;
        try (URLClassLoader loader = new URLClassLoader(new URL[] {work.toUri().toURL()})) {
            System.setOut(new PrintStream(bytes, true, StandardCharsets.US_ASCII));
            Method main = loader.loadClass("Supper").getMethod("main", String[].class);
            main.invoke(null, (Object) new String[0]);
        } finally {
            System.setOut(out);
        }
        return bytes.toString(StandardCharsets.US_ASCII);
    }

    private static void remove(Path work) throws Exception {
        try (Stream<Path> all = Files.walk(work)) {
            for (Path path : all.sorted(Comparator.reverseOrder()).toList()) Files.delete(path);
        }
    }

    private static void everyCallIsNamed(String text) {
        int calls = 0;
        for (Method m : SmokeTalk.class.getDeclaredMethods()) {
            if (!Modifier.isPublic(m.getModifiers())) continue;
            calls++;
            Checks.holds("README names " + m.getName(), text.contains("`" + m.getName() + "`"));
        }
        Checks.due("calls of the face", calls, 28);
    }

    private static void everyConstantIsNamed(String text) throws Exception {
        for (Field f : SmokeTalk.class.getFields()) {
            String name = "`" + f.getName() + "` (" + f.getInt(null) + ")";
            Checks.holds("README names " + name, text.contains(name));
        }
    }

    private static void theTestsAreRunAsItSays(String text) {
        Checks.holds("README tells the script", text.contains("\n    .ci/run\n"));
        Checks.holds("the script is there and can be run", Files.isExecutable(Path.of(".ci/run")));
    }
}
