import java.io.ByteArrayOutputStream;
import java.io.IOException;
import java.io.PrintStream;
import java.lang.reflect.Method;
import java.lang.reflect.Modifier;
import java.net.URL;
import java.net.URLClassLoader;
import java.nio.charset.StandardCharsets;
import java.nio.file.Files;
import java.nio.file.Path;
import java.util.Comparator;
import java.util.List;
import java.util.stream.Collectors;
import java.util.stream.Stream;
import javax.tools.ToolProvider;

/** README.md holds: its example compiles and prints what it says, and its table has each call. */
public final class ReadmeTest {
    private static int wrong = 0;

    public static void main(String[] args) throws Exception {
        String readme = Files.readString(Path.of("README.md"), StandardCharsets.UTF_8);
        String printed = printedBy(block(readme, "java"));
        due("the example prints", printed.strip(), block(readme, "text").strip());
        String table = readme.substring(readme.indexOf("### The calls"), readme.indexOf("## How it is built"));
        for (Method method : RangeCodes.class.getDeclaredMethods()) {
            if (Modifier.isPublic(method.getModifiers())) {
                due("the table has " + method.getName(), rowsWith(table, method.getName()), 1L);
            }
        }
        System.out.println(wrong == 0 ? "README.md holds" : wrong + " faults of README.md");
        if (wrong != 0) {
            System.exit(1);
        }
    }

    private static void due(String what, Object got, Object want) {
        if (!got.equals(want)) {
            wrong++;
            System.out.println(what + ": " + got + "\n  due is: " + want);
        }
    }

    /** The first block of a language, without its fences. */
    private static String block(String readme, String language) {
        String fence = "```" + language + "\n";
        int start = readme.indexOf(fence) + fence.length();
        return readme.substring(start, readme.indexOf("\n```", start));
    }

    private static long rowsWith(String table, String call) {
        return table.lines().filter(row -> row.startsWith("|") && row.contains("`" + call + "`")).count();
    }

    private static String printedBy(String example) throws Exception {
        Path folder = Files.createTempDirectory("readme");
        try {
            Path source = folder.resolve("Example.java");
            Files.writeString(source, example, StandardCharsets.UTF_8);
            int failed = ToolProvider.getSystemJavaCompiler().run(null, null, null, "-encoding", "UTF-8",
                "-cp", System.getProperty("java.class.path"), "-d", folder.toString(), source.toString());
            return failed == 0 ? run(folder) : "nothing: it does not compile";
        } finally {
            remove(folder);
        }
    }

    private static String run(Path folder) throws Exception {
        PrintStream kept = System.out;
        ByteArrayOutputStream printed = new ByteArrayOutputStream();
        try (URLClassLoader loader = new URLClassLoader(new URL[] {folder.toUri().toURL()})) {
            System.setOut(new PrintStream(printed, true, StandardCharsets.UTF_8));
            loader.loadClass("Example").getMethod("main", String[].class).invoke(null, (Object) new String[0]);
        } finally {
            System.setOut(kept);
        }
        return printed.toString(StandardCharsets.UTF_8);
    }

    private static void remove(Path folder) throws IOException {
        List<Path> files;
        try (Stream<Path> walk = Files.walk(folder)) {
            files = walk.sorted(Comparator.reverseOrder()).collect(Collectors.toList());
        }
        for (Path file : files) {
            Files.delete(file);
        }
    }
}
