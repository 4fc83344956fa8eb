import java.io.IOException;
import java.lang.reflect.Method;
import java.lang.reflect.Modifier;
import java.net.URL;
import java.net.URLClassLoader;
import java.nio.file.Files;
import java.nio.file.Path;
import java.util.ArrayList;
import java.util.List;
import java.util.regex.Matcher;
import java.util.regex.Pattern;
import java.util.stream.Stream;
import javax.tools.ToolProvider;

/** README.md: its example is compiled and run, each answer is the one that stands behind the call; all names stand there. */
public final class ReadmeTest {
    private static final Check CHECK = new Check("ReadmeTest");
    private static final Pattern BLOCK = Pattern.compile("(?s)```java\n(.*?)```");
    /** A call, and in the comment behind it the number that it answers. */
    private static final Pattern ANSWERED = Pattern.compile("(?m)^((?:x\\.\\w+|tell)\\(.*\\)); +// (-?\\d+)\\b.*$");

    public static void main(String[] args) throws Exception {
        String readme = Files.readString(Path.of("README.md"));
        everyCallIsNamed(readme);
        everyTestIsNamed(readme);
        exampleRuns(readme);
        CHECK.end();
    }

    private static void stands(String what, boolean does) {
        CHECK.due("that " + what, does ? 1 : 0, 1);
    }

    private static void everyCallIsNamed(String readme) {
        for (Method m : BucketSheet.class.getDeclaredMethods()) {
            if (Modifier.isPublic(m.getModifiers())) {
                stands("README.md tells " + m.getName(), readme.contains("| `" + m.getName() + "("));
            }
        }
    }

    private static void everyTestIsNamed(String readme) throws IOException {
        try (Stream<Path> files = Files.list(Path.of("src/test/java"))) {
            for (Path file : (Iterable<Path>) files::iterator) {
                String name = file.getFileName().toString().replace(".java", "");
                stands("README.md tells " + name, !name.endsWith("Test") || readme.contains("| " + name + " |"));
            }
        }
    }

    private static void exampleRuns(String readme) throws Exception {
        List<String> blocks = new ArrayList<>();
        for (Matcher m = BLOCK.matcher(readme); m.find();) {
            blocks.add(m.group(1));
        }
        stands("README.md has the text's method and the example", blocks.size() == 2);
        if (blocks.size() != 2) {
            return;
        }
        List<String> calls = new ArrayList<>();
        List<Long> due = new ArrayList<>();
        StringBuffer body = new StringBuffer();
        Matcher m = ANSWERED.matcher(blocks.get(1));
        while (m.find()) {
            m.appendReplacement(body, Matcher.quoteReplacement("got[" + calls.size() + "] = " + m.group(1) + ";"));
            calls.add(m.group(1));
            due.add(Long.parseLong(m.group(2)));
        }
        m.appendTail(body);
        stands("each call of the example has its answer", !Pattern.compile("(?m)^(x\\.|tell)").matcher(body).find());
        long[] got = answers("public class Example {\n" + blocks.get(0) + "public static void run(long[] got) {\n" + body + "}\n}\n",
            calls.size());
        for (int i = 0; i < got.length; i++) {
            CHECK.due(calls.get(i), got[i], due.get(i));
        }
    }

    private static long[] answers(String source, int many) throws Exception {
        Path dir = Files.createTempDirectory("readme");
        Path file = dir.resolve("Example.java");
        long[] got = new long[many];
        try {
            Files.writeString(file, source);
            int failed = ToolProvider.getSystemJavaCompiler().run(null, null, null, "-cp", System.getProperty("java.class.path"),
                "-d", dir.toString(), file.toString());
            stands("the example compiles", failed == 0);
            if (failed == 0) {
                try (URLClassLoader loader = new URLClassLoader(new URL[] {dir.toUri().toURL()})) {
                    loader.loadClass("Example").getMethod("run", long[].class).invoke(null, (Object) got);
                }
            }
        } finally {
            Files.deleteIfExists(dir.resolve("Example.class"));
            Files.deleteIfExists(file);
            Files.deleteIfExists(dir);
        }
        return got;
    }
}
