import java.io.ByteArrayOutputStream;
import java.io.PrintStream;
import java.lang.reflect.Method;
import java.lang.reflect.Modifier;
import java.net.URL;
import java.net.URLClassLoader;
import java.nio.file.Files;
import java.nio.file.Path;
import java.util.ArrayList;
import java.util.List;
import java.util.regex.Matcher;
import java.util.regex.Pattern;
import javax.tools.JavaCompiler;
import javax.tools.ToolProvider;

/** README.md: its program prints what it says, its table has every call, its command is there. */
public final class ReadmeTest {
    private static final Check CHECK = new Check("ReadmeTest");

    public static void main(String[] args) throws Exception {
        String readme = Files.readString(Path.of("README.md"));
        example(readme);
        calls(readme);
        command(readme);
        CHECK.finish();
    }

    private static void example(String readme) throws Exception {
        CHECK.promise("the program in README.md");
        String due = block(readme, "text");
        String got = printed(block(readme, "java"));
        CHECK.due(due.isEmpty(), false);
        CHECK.due(got.equals(due), true);
        if (!got.equals(due)) {
            System.out.println("README.md says:\n" + due + "but the program prints:\n" + got);
        }
    }

    /** The first block of a kind; empty if there is none. */
    private static String block(String readme, String kind) {
        Matcher m = Pattern.compile("(?s)```" + kind + "\n(.*?)```").matcher(readme);
        return m.find() ? m.group(1) : "";
    }

    private static String printed(String program) throws Exception {
        Path made = Files.createTempDirectory("readme");
        Path source = Files.writeString(made.resolve("Example.java"), program);
        JavaCompiler javac = ToolProvider.getSystemJavaCompiler();
        int failed = javac.run(null, null, null, "-Xlint:all", "-Werror", "-cp", System.getProperty("java.class.path"),
                "-d", made.toString(), source.toString());
        CHECK.due(failed, 0);
        String text = failed == 0 ? run(made) : "";
        Files.deleteIfExists(source);
        Files.deleteIfExists(made.resolve("Example.class"));
        Files.deleteIfExists(made);
        return text;
    }

    private static String run(Path made) throws Exception {
        ByteArrayOutputStream bytes = new ByteArrayOutputStream();
        PrintStream usual = System.out;
        try (URLClassLoader loader = new URLClassLoader(new URL[] {made.toUri().toURL()})) {
            System.setOut(new PrintStream(bytes, true));
            Method main = loader.loadClass("Example").getMethod("main", String[].class);
            main.invoke(null, (Object) new String[0]);
        } finally {
            System.setOut(usual);
        }
        return bytes.toString().replace("\r\n", "\n");
    }

    /** A row of the table for each public call, with as many numbers as it takes, in the promises' order. */
    private static void calls(String readme) {
        CHECK.promise("the table of calls in README.md");
        List<String> got = new ArrayList<>();
        Matcher m = Pattern.compile("(?m)^\\| `(\\w+)\\(([^)]*)\\)` \\| (\\d+) \\|").matcher(readme);
        while (m.find()) {
            int numbers = m.group(2).isEmpty() ? 0 : m.group(2).split(", ").length;
            got.add(m.group(1) + " " + numbers);
            // Promise 1 is the constructor's.
            CHECK.due(Integer.parseInt(m.group(3)), got.size() + 1);
        }
        int calls = 0;
        for (Method each : PetrolBoard.class.getDeclaredMethods()) {
            if (Modifier.isPublic(each.getModifiers())) {
                calls++;
                CHECK.due(got.contains(each.getName() + " " + each.getParameterCount()), true);
            }
        }
        CHECK.due(got.size(), calls);
    }

    private static void command(String readme) {
        CHECK.promise("the command in README.md");
        CHECK.due(readme.contains("\n    sh .ci/run\n"), true);
        CHECK.due(Files.isExecutable(Path.of(".ci/run")), true);
    }
}
