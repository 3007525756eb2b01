import java.io.File;
import java.io.IOException;
import java.net.URL;
import java.net.URLClassLoader;
import java.nio.file.Files;
import java.nio.file.Path;
import java.util.ArrayList;
import java.util.List;
import java.util.Set;
import java.util.TreeSet;
import java.util.function.Supplier;
import java.util.regex.Matcher;
import java.util.regex.Pattern;

/** What README.md tells: its examples answer as they say, and its table has every test. */
public final class ReadmeTest {
    private static final Pattern EXAMPLE = Pattern.compile("```java\n(.*?)```", Pattern.DOTALL);
    private static final Pattern ANSWERED = Pattern.compile("(?m)^(.*); *// (-?\\d+)\\b.*$");
    private static final Pattern NAMED = Pattern.compile("`(\\w+Test)`");

    public static void main(String[] args) throws Exception {
        String readme = Files.readString(Path.of("README.md"));
        examples(readme);
        namesEveryTest(readme);
        Check.end();
    }

    private static void examples(String readme) throws Exception {
        Matcher examples = EXAMPLE.matcher(readme);
        int found = 0;
        while (examples.find()) {
            example("Example" + found, examples.group(1));
            found++;
        }
        Check.due("README.md has an example", found > 0 ? 1 : 0, 1);
    }

    /** A comment that begins with a number tells the answer of the call before it. */
    private static void example(String name, String text) throws Exception {
        List<String> calls = new ArrayList<>();
        List<Long> due = new ArrayList<>();
        Matcher answered = ANSWERED.matcher(text);
        while (answered.find()) {
            calls.add(answered.group(1));
            due.add(Long.valueOf(answered.group(2)));
        }
        Check.due(name + " tells answers", due.isEmpty() ? 0 : 1, 1);
        String body = ANSWERED.matcher(text).replaceAll("answers[next++] = $1;");
        long[] answers = run(name, "public class " + name + " implements java.util.function.Supplier<long[]> {\n"
                + "public long[] get() {\nlong[] answers = new long[" + due.size() + "];\nint next = 0;\n"
                + body + "return answers;\n}\n}\n");
        for (int k = 0; k < answers.length; k++) {
            Check.due("README.md: " + calls.get(k), answers[k], due.get(k));
        }
    }

    private static long[] run(String name, String source) throws Exception {
        Path folder = Files.createTempDirectory("readme");
        try {
            Path file = Files.writeString(folder.resolve(name + ".java"), source);
            String path = System.getProperty("java.class.path");
            Process javac = new ProcessBuilder("javac", "-proc:none", "-cp", path, "-d", folder.toString(),
                    file.toString()).inheritIO().start();
            Check.due(name + " of README.md compiles", javac.waitFor(), 0);
            try (URLClassLoader loader = new URLClassLoader(new URL[] {folder.toUri().toURL()})) {
                Object made = loader.loadClass(name).getDeclaredConstructor().newInstance();
                return (long[]) ((Supplier<?>) made).get();
            }
        } finally {
            remove(folder.toFile());
        }
    }

    private static void namesEveryTest(String readme) throws IOException {
        Set<String> named = new TreeSet<>();
        Matcher matcher = NAMED.matcher(readme);
        while (matcher.find()) {
            named.add(matcher.group(1));
        }
        Set<String> there = new TreeSet<>();
        for (File file : new File("src/test/java").listFiles()) {
            if (file.getName().endsWith("Test.java")) {
                there.add(file.getName().replace(".java", ""));
            }
        }
        Check.dueText("README.md names the tests", named.toString(), there.toString());
    }

    private static void remove(File folder) {
        for (File file : folder.listFiles()) {
            file.delete();
        }
        folder.delete();
    }
}
