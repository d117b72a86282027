import java.io.ByteArrayOutputStream;
import java.io.IOException;
import java.io.PrintStream;
import java.lang.reflect.Method;
import java.lang.reflect.Modifier;
import java.nio.file.Files;
import java.nio.file.Path;
import java.util.regex.Matcher;
import java.util.regex.Pattern;

/** README.md shows the example as it is, and what it prints, and tells of each call of the face. */
public final class ReadmeTest {
    public static void main(String[] args) throws IOException {
        Check check = new Check();
        String readme = Files.readString(Path.of("README.md"));
        String example = Files.readString(Path.of("src/test/java/Example.java"));
        check.due("the example", example, () -> block(readme, "java"));
        check.due("what it prints", printed(), () -> block(readme, "text"));
        for (Method method : WeightedTrees.class.getDeclaredMethods()) {
            if (Modifier.isPublic(method.getModifiers())) {
                check.due(method.getName() + "() is told of", true, () -> readme.contains("| `" + method.getName() + "("));
            }
        }
        check.due("how to run the tests", true, () -> readme.contains(".ci/run"));
        check.end();
    }

    private static String block(String readme, String kind) {
        Matcher block = Pattern.compile("(?s)```" + kind + "\n(.*?)```").matcher(readme);
        return block.find() ? block.group(1) : "none";
    }

    private static String printed() {
        PrintStream console = System.out;
        ByteArrayOutputStream bytes = new ByteArrayOutputStream();
        System.setOut(new PrintStream(bytes, true));
        Example.main(new String[0]);
        System.setOut(console);
        return bytes.toString().replace(System.lineSeparator(), "\n");
    }
}
