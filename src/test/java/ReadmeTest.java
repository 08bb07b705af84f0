import java.net.URL;
import java.net.URLClassLoader;
import java.nio.file.Files;
import java.nio.file.Path;
import java.util.List;
import java.util.regex.Matcher;
import java.util.regex.Pattern;

/** The examples in README.md compile, and each call answers what stands behind it. */
public final class ReadmeTest {
    private static final Pattern BLOCK = Pattern.compile("(?s)```java\n(.*?)```");
    private static final Pattern CALL = Pattern.compile("(?m)^(x\\.[^;\n]*);\\s*// (-?\\d+)\\b.*$");
    private static final Pattern NO_ANSWER = Pattern.compile("(?m)^x\\.(?!.*// -?\\d).*$");

    /** A class with the examples; it hands out what was asked, the answers, and those that are due. */
    private static String examples(String readme) {
        StringBuilder b = new StringBuilder("public final class Examples {\n");
        b.append("public static java.util.List<Object[]> answers() {\n");
        b.append("java.util.List<Object[]> answers = new java.util.ArrayList<>();\n");
        Matcher blocks = BLOCK.matcher(readme);
        while (blocks.find()) {
            Checks.hold("README: each call has its answer", !NO_ANSWER.matcher(blocks.group(1)).find());
            b.append("{\n").append(CALL.matcher(blocks.group(1)).replaceAll(
                "answers.add(new Object[] {\"$1\", (long) $1, (long) $2});")).append("}\n");
        }
        return b.append("return answers; } }\n").toString();
    }

    private static List<?> asked(Path work, String code) throws Exception {
        Path file = Files.writeString(work.resolve("Examples.java"), code);
        Path made = work.resolve("Examples.class");
        file.toFile().deleteOnExit();
        made.toFile().deleteOnExit();
        Process javac = new ProcessBuilder("javac", "-d", work.toString(), "-cp",
            System.getProperty("java.class.path"), file.toString()).inheritIO().start();
        Checks.due("README: compiled", javac.waitFor(), 0);
        try (URLClassLoader loader = new URLClassLoader(new URL[] {work.toUri().toURL()})) {
            return (List<?>) loader.loadClass("Examples").getMethod("answers").invoke(null);
        }
    }

    public static void main(String[] args) throws Exception {
        Path work = Files.createTempDirectory("readme");
        work.toFile().deleteOnExit();
        List<?> answers = asked(work, examples(Files.readString(Path.of("README.md"))));
        Checks.hold("README: examples", answers.size() > 30);
        for (Object answer : answers) {
            Object[] of = (Object[]) answer;
            Checks.due("README: " + of[0], (Long) of[1], (Long) of[2]);
        }
        Checks.end("ReadmeTest");
    }
}
