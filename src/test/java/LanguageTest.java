import java.io.IOException;
import java.lang.management.ManagementFactory;
import java.lang.reflect.Executable;
import java.lang.reflect.Field;
import java.lang.reflect.Method;
import java.lang.reflect.Modifier;
import java.nio.file.Files;
import java.nio.file.Path;
import java.util.ArrayList;
import java.util.List;
import java.util.Set;
import java.util.TreeSet;
import java.util.regex.Matcher;
import java.util.regex.Pattern;
import java.util.stream.Collectors;
import java.util.stream.Stream;

/** The rules of LANGUAGE.md, as far as the program's text, its classes and its use of memory show them. */
public final class LanguageTest {
    private static final Path SOURCES = Path.of("src/main/java");

    private static final Check check = new Check();

    public static void main(String[] args) throws IOException {
        theProgramIsOneFile();
        String code = withoutComments(Files.readString(SOURCES.resolve("WeightedTrees.java")));
        rule1NoPrivateMethodIsNamedAsAPublicOne();
        rule4OnlyWhatIsListed(code);
        rule5StaticFieldsAreConstants();
        rule6ExceptionsAreMadeInPlace(code);
        wordsThatAreNotUsed(code);
        rule11Sizes();
        rule12LittleIsMade();
        check.end();
    }

    private static String withoutComments(String source) {
        return source.replaceAll("(?s)/\\*.*?\\*/", "").replaceAll("//[^\n]*", "");
    }

    private static List<Class<?>> classes() {
        List<Class<?>> classes = new ArrayList<>(List.of(WeightedTrees.class.getDeclaredClasses()));
        classes.add(WeightedTrees.class);
        return classes;
    }

    /** "The program is one file". */
    private static void theProgramIsOneFile() throws IOException {
        try (Stream<Path> files = Files.walk(SOURCES)) {
            String names = files.filter(Files::isRegularFile).map(String::valueOf).collect(Collectors.joining(" "));
            check.due("the files", "src/main/java/WeightedTrees.java", () -> names.replace('\\', '/'));
        }
    }

    /** Rule 1: "No private method bears the name of a public one." FaceTest looks at the face itself. */
    private static void rule1NoPrivateMethodIsNamedAsAPublicOne() {
        Set<String> names = new TreeSet<>();
        for (Method method : WeightedTrees.class.getDeclaredMethods()) {
            if (Modifier.isPublic(method.getModifiers())) {
                names.add(method.getName());
            }
        }
        check.due("public names", 14, names::size);
        for (Class<?> each : classes()) {
            for (Method method : each.getDeclaredMethods()) {
                if (!Modifier.isPublic(method.getModifiers())) {
                    check.due(method + " is named as a public one", false, () -> names.contains(method.getName()));
                }
            }
        }
    }

    /** Rule 4: "The library: only what stands here." Of all that, the program uses two functions. */
    private static void rule4OnlyWhatIsListed(String code) {
        Set<String> used = new TreeSet<>();
        Matcher calls = Pattern.compile("\\b([A-Z]\\w*[a-z]\\w*)\\.(\\w+)").matcher(code);
        Set<String> own = classes().stream().map(Class::getSimpleName).collect(Collectors.toSet());
        while (calls.find()) {
            if (!own.contains(calls.group(1))) {
                used.add(calls.group());
            }
        }
        check.due("the library", "[Integer.bitCount, Math.min]", () -> used);
    }

    /** Rule 5: "Static fields are final". */
    private static void rule5StaticFieldsAreConstants() {
        for (Class<?> each : classes()) {
            for (Field field : each.getDeclaredFields()) {
                if (Modifier.isStatic(field.getModifiers())) {
                    check.due(field + " is a constant int", true,
                            () -> Modifier.isFinal(field.getModifiers()) && field.getType() == int.class);
                }
            }
        }
    }

    /** Rule 6: "throw new E() or throw new E("a written text")". */
    private static void rule6ExceptionsAreMadeInPlace(String code) {
        int all = count(code, "\\bthrow\\b");
        check.due("throws as they should be", all, () -> count(code,
                "\\bthrow new (IllegalState|IllegalArgument|IndexOutOfBounds)Exception\\(\"[^\"\n]*\"\\);"));
        check.due("some are there", true, () -> all > 0);
    }

    private static int count(String code, String pattern) {
        return (int) Pattern.compile(pattern).matcher(code).results().count();
    }

    /** Rules 2, 6, 10 and 13: what they forbid, and what needs an import. */
    private static void wordsThatAreNotUsed(String code) {
        String[] patterns = {
            "->", "::", "\\bimport\\b", "\\bpackage\\b", "\\bfinally\\b", "\\btry\\b", "\\bassert\\b", "\\bvar\\b",
            "\\bsynchronized\\b", "\\binstanceof\\b", "\\bstatic \\{", "\\bdouble\\b", "\\bfloat\\b", "\\bString\\b",
            "\\bSystem\\b", "\\bThread\\b", "\\bwhile \\(true\\)", "\\bfor \\(;;",
        };
        for (String pattern : patterns) {
            check.due(pattern + " in the program", 0, () -> count(code, pattern));
        }
    }

    /** Rule 11: parameters, classes and fields. */
    private static void rule11Sizes() {
        check.due("at most twelve classes", true, () -> classes().size() <= 12);
        for (Class<?> each : classes()) {
            List<Executable> all = new ArrayList<>(List.of(each.getDeclaredMethods()));
            all.addAll(List.of(each.getDeclaredConstructors()));
            for (Executable method : all) {
                check.due(method + " has at most seven parameters", true, () -> method.getParameterCount() <= 7);
            }
            long fields = Stream.of(each.getDeclaredFields()).filter(f -> !Modifier.isStatic(f.getModifiers())).count();
            check.due(each + " has at most twenty fields", true, () -> fields <= 20);
        }
    }

    /** Rule 12: "What a run makes is counted .. keep it small". */
    private static void rule12LittleIsMade() {
        com.sun.management.ThreadMXBean memory =
                (com.sun.management.ThreadMXBean) ManagementFactory.getThreadMXBean();
        long[] words = words("S=SSSS 1 1\nS=SS 1 1\nS=a 1 1\nS=ABCD 1 1\nA=a 1 1\nB= 1 1\nC=D 1 1\nD= 1 1\n");
        // The first run may load classes; the second one tells what a run makes.
        long made = 0;
        for (int run = 0; run < 2; run++) {
            WeightedTrees x = new WeightedTrees();
            long before = memory.getThreadAllocatedBytes(Thread.currentThread().getId());
            useUp(x, words);
            made = memory.getThreadAllocatedBytes(Thread.currentThread().getId()) - before;
        }
        long bytes = made;
        check.due(bytes + " bytes are at most 50000", true, () -> bytes <= 50_000);
    }

    private static long[] words(String text) {
        String whole = text + "#".repeat((8 - text.length() % 8) % 8);
        long[] words = new long[whole.length() / 8];
        for (int k = 0; k < words.length; k++) {
            words[k] = Check.codes(whole.substring(8 * k, 8 * k + 8));
        }
        return words;
    }

    private static void useUp(WeightedTrees x, long[] words) {
        for (int calls = 0; calls + words.length + 4 <= 512; calls += words.length + 4) {
            for (long word : words) {
                x.put(8, word);
            }
            x.load();
            x.put(8, 0x6161_6161_6161_6161L);
            x.parse();
            x.build(0, 0, 8);
        }
    }
}
