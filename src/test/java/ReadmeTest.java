import java.io.IOException;
import java.lang.reflect.Method;
import java.lang.reflect.Modifier;
import java.nio.file.Files;
import java.nio.file.Path;
import java.util.List;

/** README.md, read from the folder of the project: its example prints what it says, and no call is left out. */
public final class ReadmeTest {
    public static void main(String[] args) throws IOException, InterruptedException {
        List<String> readme = Files.readAllLines(Path.of("README.md"));
        String printed = runExample(block(readme, "```java"));
        Due.test("README.md, the example", () -> Due.due("it", printed, block(readme, "```text")));
        Due.test("README.md, the calls", () -> everyCallStandsThere(String.join("\n", readme)));
        Due.end();
    }

    private static String block(List<String> readme, String fence) {
        int from = readme.indexOf(fence) + 1;
        int end = from;
        while (end < readme.size() && !readme.get(end).equals("```")) {
            end++;
        }
        return String.join("\n", readme.subList(from, end));
    }

    private static String runExample(String code) throws IOException, InterruptedException {
        Path folder = Files.createTempDirectory("readme");
        Path file = folder.resolve("Example.java");
        try {
            Files.writeString(file, code);
            String java = Path.of(System.getProperty("java.home"), "bin", "java").toString();
            Process run = new ProcessBuilder(java, "-cp", System.getProperty("java.class.path"), file.toString())
                .redirectErrorStream(true).start();
            String printed = new String(run.getInputStream().readAllBytes());
            return run.waitFor() == 0 ? printed.strip() : "a failure: " + printed;
        } finally {
            Files.deleteIfExists(file);
            Files.delete(folder);
        }
    }

    private static void everyCallStandsThere(String readme) {
        for (Method method : LassoDesk.class.getDeclaredMethods()) {
            if (Modifier.isPublic(method.getModifiers())) {
                Due.due(method.getName(), readme.contains("`" + method.getName() + "("), true);
            }
        }
    }
}
