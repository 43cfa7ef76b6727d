import java.io.IOException;
import java.lang.reflect.InvocationTargetException;
import java.net.URL;
import java.net.URLClassLoader;
import java.nio.file.Files;
import java.nio.file.Path;
import java.util.Comparator;
import java.util.List;
import java.util.regex.Matcher;
import java.util.regex.Pattern;
import java.util.stream.Stream;
import javax.tools.ToolProvider;

/** The calls that README.md shows are put into a class, one behind another, and answer as is said behind them. */
public final class ReadmeTest {
    private static final Pattern BLOCK = Pattern.compile("```java\n(.*?)```", Pattern.DOTALL);
    private static final Pattern ANSWER = Pattern.compile("(x\\.\\w+\\(.*\\));\\s+// (throws )?(-?\\w+).*");

    public static void main(String[] args) throws Exception {
        Path home = Path.of(args[0]);
        Path out = Files.createTempDirectory("readme");
        try {
            Due due = new Due();
            runAll(home, out, due);
            due.finish();
        } finally {
            remove(out);
        }
    }

    private static void runAll(Path home, Path out, Due due) throws Exception {
        Path source = out.resolve("ReadmeCalls.java");
        Files.writeString(source, sourceOf(Files.readString(home.resolve("README.md"))));
        int came = ToolProvider.getSystemJavaCompiler().run(null, null, null, "-d", out.toString(), source.toString(),
            home.resolve("src/main/java/GuestView.java").toString(), home.resolve("src/test/java/Due.java").toString());
        due.is("compiling the calls of README.md", came, 0);
        if (came != 0) {
            return;
        }
        ClassLoader beside = ClassLoader.getPlatformClassLoader();
        try (URLClassLoader loader = new URLClassLoader(new URL[] {out.toUri().toURL()}, beside)) {
            loader.loadClass("ReadmeCalls").getMethod("run").invoke(null);
        } catch (InvocationTargetException e) {
            System.out.println(e.getCause());
            due.is("README.md runs to its end", false, true);
        }
    }

    private static String sourceOf(String readme) {
        StringBuilder members = new StringBuilder();
        StringBuilder calls = new StringBuilder();
        Matcher block = BLOCK.matcher(readme);
        while (block.find()) {
            if (block.group(1).startsWith("static ")) {
                members.append(block.group(1));
            } else {
                for (String line : block.group(1).split("\n")) {
                    calls.append(callOf(line)).append('\n');
                }
            }
        }
        return "public final class ReadmeCalls {\n" + members + "public static void run() {\nDue due = new Due();\n"
            + calls + "due.finish();\n}\n}\n";
    }

    private static String callOf(String line) {
        Matcher m = ANSWER.matcher(line);
        if (!m.matches()) {
            return line;
        }
        String name = "\"README.md: " + m.group(1) + "\"";
        if (m.group(2) != null) {
            return "{ GuestView y = x; due.throwing(" + name + ", " + m.group(3) + ".class, () -> y" + m.group(1).substring(1) + "); }";
        }
        return "due.is(" + name + ", " + m.group(1) + ", " + m.group(3) + ");";
    }

    private static void remove(Path directory) throws IOException {
        List<Path> all;
        try (Stream<Path> found = Files.walk(directory)) {
            all = found.sorted(Comparator.reverseOrder()).toList();
        }
        for (Path path : all) {
            Files.delete(path);
        }
    }
}
