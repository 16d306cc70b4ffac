import java.net.URL;
import java.net.URLClassLoader;
import java.nio.file.Files;
import java.nio.file.Path;
import java.util.ArrayList;
import java.util.List;
import java.util.regex.Matcher;
import java.util.regex.Pattern;
import java.util.stream.Stream;
import javax.tools.JavaCompiler;
import javax.tools.ToolProvider;

/** What README.md says: its examples are compiled and run as they stand, and the files that it names are there. */
public final class ReadmeTest {
    private static final Checks c = new Checks("ReadmeTest");
    private static final Pattern BLOCK = Pattern.compile("(?s)```java\n(.*?)```");
    private static final Pattern ANSWERED = Pattern.compile("((?:x\\.|read\\().*\\));\\s*// (-?\\d+)(?:: .+)?");

    public static void main(String[] args) throws Exception {
        String readme = Files.readString(Path.of("README.md"));
        run(exampleClass(readme));
        namesEachFile(readme);
        c.end();
    }

    /** An example of README.md tells its answers here. */
    public static void due(String call, long got, long want) {
        c.due("example " + call, got, want);
    }

    private static String exampleClass(String readme) {
        StringBuilder helpers = new StringBuilder();
        StringBuilder examples = new StringBuilder();
        int calls = 0;
        Matcher block = BLOCK.matcher(readme);
        while (block.find()) {
            String code = block.group(1);
            if (code.startsWith("static ")) {
                helpers.append(code);
                continue;
            }
            examples.append("{\n");
            for (String line : code.split("\n")) {
                Matcher answered = ANSWERED.matcher(line);
                boolean call = answered.matches();
                calls += call ? 1 : 0;
                c.due("an answer is told in '" + line + "'", call || line.equals("ShuffledDays x = new ShuffledDays();") ? 1 : 0, 1);
                examples.append(call ? dueLine(answered.group(1), answered.group(2)) : line).append('\n');
            }
            examples.append("}\n");
        }
        c.due("examples of " + calls + " calls are too few", calls < 80 ? 1 : 0, 0);
        return "public class Examples {\n" + helpers + "public static void run() {\n" + examples + "}\n}\n";
    }

    private static String dueLine(String call, String answer) {
        String name = call.replace("\"", "'");
        return "ReadmeTest.due(\"" + name + "\", " + call + ", " + answer + ");";
    }

    private static void run(String source) throws Exception {
        Path folder = Files.createTempDirectory("readme");
        Path file = folder.resolve("Examples.java");
        Files.writeString(file, source);
        JavaCompiler javac = ToolProvider.getSystemJavaCompiler();
        String path = System.getProperty("java.class.path");
        c.due("the examples compile", javac.run(null, null, null, "-cp", path, "-d", folder.toString(), file.toString()), 0);
        try (URLClassLoader loader = new URLClassLoader(new URL[] {folder.toUri().toURL()})) {
            loader.loadClass("Examples").getMethod("run").invoke(null);
        }
        for (String name : new String[] {"Examples.java", "Examples.class"}) {
            Files.deleteIfExists(folder.resolve(name));
        }
        Files.delete(folder);
    }

    private static void namesEachFile(String readme) throws Exception {
        List<String> there = new ArrayList<>();
        try (Stream<Path> files = Files.list(Path.of("src/test/java"))) {
            files.forEach(f -> there.add(f.getFileName().toString().replace(".java", "")));
        }
        for (String name : there) {
            c.due("README.md names " + name, readme.contains("`" + name + "`") ? 1 : 0, 1);
        }
        Matcher named = Pattern.compile("`(\\w+Test|NaiveDays|Checks|State)`").matcher(readme);
        while (named.find()) {
            c.due("there is a file " + named.group(1), there.contains(named.group(1)) ? 1 : 0, 1);
        }
    }
}
