import java.io.IOException;
import java.net.URL;
import java.net.URLClassLoader;
import java.nio.file.Files;
import java.nio.file.Path;
import java.util.ArrayList;
import java.util.List;
import java.util.TreeSet;
import java.util.regex.Matcher;
import java.util.regex.Pattern;
import java.util.stream.Stream;

/** README.md holds: each call that it shows answers the number behind it, and the tests that it names are those there are. */
public final class ReadmeTest {
    private static final Path README = Path.of("README.md");
    private static final Path TESTS = Path.of("src/test/java");
    private static final Pattern JAVA_BLOCK = Pattern.compile("```java\n(.*?)```", Pattern.DOTALL);
    private static final Pattern SHOWN = Pattern.compile("\\s*(cork\\.\\w+\\(.*\\));\\s*// (-?\\d+)\\b.*");
    private static final Pattern NAMED_TEST = Pattern.compile("`(\\w+Test)`");

    public static void main(String[] args) throws Exception {
        String readme = Files.readString(README);
        answers(readme);
        tests(readme);
        Due.end("ReadmeTest");
    }

    private static void answers(String readme) throws Exception {
        List<String> calls = new ArrayList<>();
        List<Long> shown = new ArrayList<>();
        String body = body(readme, calls, shown);
        Due.due("README.md shows calls", calls.isEmpty() ? 0 : 1, 1);
        long[] got = run("public final class Shown {\n    public static long[] answers() {\n        long[] answers = new long["
            + calls.size() + "];\n" + body + "        return answers;\n    }\n}\n");
        for (int i = 0; i < calls.size(); i++) {
            Due.due("README.md: " + calls.get(i), got[i], shown.get(i));
        }
    }

    /** All java blocks, one behind the other, with each call that is shown with an answer kept in answers. */
    private static String body(String readme, List<String> calls, List<Long> shown) {
        StringBuilder body = new StringBuilder();
        Matcher block = JAVA_BLOCK.matcher(readme);
        while (block.find()) {
            for (String line : block.group(1).split("\n")) {
                Matcher call = SHOWN.matcher(line);
                if (call.matches()) {
                    body.append("answers[").append(calls.size()).append("] = ").append(call.group(1)).append(";\n");
                    calls.add(call.group(1));
                    shown.add(Long.valueOf(call.group(2)));
                } else {
                    body.append(line).append('\n');
                    boolean isShownWithout = line.startsWith("cork.");
                    Due.due("README.md shows without its answer: " + line, isShownWithout ? 1 : 0, 0);
                }
            }
        }
        return body.toString();
    }

    private static long[] run(String source) throws Exception {
        Path work = Files.createTempDirectory("readme");
        try {
            Path file = Files.writeString(work.resolve("Shown.java"), source);
            Process javac = new ProcessBuilder("javac", "-encoding", "UTF-8", "-cp", System.getProperty("java.class.path"),
                "-d", work.toString(), file.toString()).inheritIO().start();
            Due.due("javac of what README.md shows", javac.waitFor(), 0);
            try (URLClassLoader loader = new URLClassLoader(new URL[] {work.toUri().toURL()})) {
                return (long[]) loader.loadClass("Shown").getMethod("answers").invoke(null);
            }
        } finally {
            delete(work);
        }
    }

    private static void delete(Path work) throws IOException {
        try (Stream<Path> files = Files.list(work)) {
            for (Path file : files.toList()) {
                Files.delete(file);
            }
        }
        Files.delete(work);
    }

    private static void tests(String readme) throws IOException {
        TreeSet<String> named = new TreeSet<>();
        Matcher name = NAMED_TEST.matcher(readme);
        while (name.find()) {
            named.add(name.group(1));
        }
        TreeSet<String> there = new TreeSet<>();
        try (Stream<Path> files = Files.list(TESTS)) {
            files.map(file -> file.getFileName().toString()).filter(file -> file.endsWith("Test.java"))
                .forEach(file -> there.add(file.substring(0, file.length() - ".java".length())));
        }
        Due.same("the tests that README.md names", named.toString(), there.toString());
    }
}
