import java.io.ByteArrayOutputStream;
import java.io.IOException;
import java.io.PrintStream;
import java.nio.charset.StandardCharsets;
import java.nio.file.Files;
import java.nio.file.Path;

/** README.md: its example is Example, and prints what it tells; all calls are told; tests are run as CI runs them. */
final class ReadmeTest {
    public static void main(String[] args) throws IOException {
        String readme = Files.readString(Path.of("README.md"));
        Check.due("the example", block(readme, "java"), Files.readString(Path.of("src/test/java/Example.java")));
        Check.due("what the example prints", block(readme, "text"), printed());
        for (java.lang.reflect.Method method : Deltacycle.class.getMethods()) {
            if (method.getDeclaringClass() == Deltacycle.class) {
                Check.due("the call " + method.getName() + " is told", readme.contains("`" + method.getName() + "("), true);
            }
        }
        String tests = readme.substring(readme.indexOf("## Tests"));
        Check.due("the way of running the tests", block(tests, "sh"), ".ci/run\n");
        Check.due("it can be gone", Files.isExecutable(Path.of(".ci/run")), true);
        Check.end();
    }

    private static String block(String text, String kind) {
        String begin = "```" + kind + "\n";
        int from = text.indexOf(begin);
        int to = text.indexOf("```", from + begin.length());
        return from < 0 || to < 0 ? "no block of " + kind : text.substring(from + begin.length(), to);
    }

    private static String printed() {
        PrintStream out = System.out;
        ByteArrayOutputStream caught = new ByteArrayOutputStream();
        System.setOut(new PrintStream(caught, true, StandardCharsets.UTF_8));
        Example.main(new String[0]);
        System.setOut(out);
        return caught.toString(StandardCharsets.UTF_8).replace(System.lineSeparator(), "\n");
    }
}
