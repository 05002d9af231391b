import java.io.IOException;
import java.net.URI;
import java.nio.file.Files;
import java.nio.file.Path;
import java.util.ArrayList;
import java.util.List;
import java.util.concurrent.Callable;
import java.util.regex.Matcher;
import java.util.regex.Pattern;
import java.util.stream.Stream;
import javax.tools.JavaCompiler;
import javax.tools.JavaFileObject;
import javax.tools.SimpleJavaFileObject;
import javax.tools.ToolProvider;

/** README.md is true: its example answers as it says, and every file that it names is there. */
public final class FeedloomReadme extends Checks {
    private static final String EXAMPLE = "ReadmeExample";
    private static final Pattern BLOCK = Pattern.compile("```java\n(.*?)```", Pattern.DOTALL);
    private static final Pattern STEP = Pattern.compile("(?:int (\\w+) = )?(reader\\..*); +// ([^:]+)(?:: .*)?");
    private static final Pattern NAMED = Pattern.compile("`((?:\\.\\./|\\.ci/|src/)[^` ]+)`");

    public static void main(String[] args) throws Exception {
        String readme = Files.readString(Path.of("README.md"));
        example(readme);
        files(readme);
        tests(readme);
        end();
    }

    private static void example(String readme) throws Exception {
        promise("README's example");
        Matcher block = BLOCK.matcher(readme);
        if (!block.find()) {
            throw new AssertionError("README.md has no example");
        }
        compile(testOf(block.group(1).lines().toList()));
        Class.forName(EXAMPLE).getDeclaredMethod("run").invoke(null);
    }

    /** Writes the example once more, with a check behind each of its calls. */
    private static String testOf(List<String> lines) {
        StringBuilder text = new StringBuilder("final class " + EXAMPLE + " {\n    static void run() {\n");
        for (String line : lines) {
            Matcher step = STEP.matcher(line);
            if (step.matches() && step.group(1) != null) {
                text.append("int " + step.group(1) + " = " + step.group(2) + ";\n");
                text.append(check(step.group(2), step.group(3), step.group(1)));
            } else if (step.matches()) {
                text.append(check(step.group(2), step.group(3), step.group(2)));
            } else if (line.isEmpty() || line.equals("Feedloom reader = new Feedloom();")) {
                text.append(line).append('\n');
            } else {
                throw new AssertionError("a line of README's example tells no answer: " + line);
            }
        }
        return text.append("    }\n}\n").toString();
    }

    private static String check(String call, String answer, String asked) {
        return "FeedloomReadme.told(\"" + call + "\", \"" + answer.strip() + "\", () -> " + asked + ");\n";
    }

    static void told(String call, String answer, Callable<?> asked) {
        due(call, answer, () -> written(outcome(asked)));
    }

    private static String written(Object got) {
        return got instanceof Class<?> thrown ? "throws " + thrown.getSimpleName() : String.valueOf(got);
    }

    /** Puts the class beside those of this test, where it is found by its name. */
    private static void compile(String text) {
        String classes = System.getProperty("java.class.path");
        JavaCompiler compiler = ToolProvider.getSystemJavaCompiler();
        JavaFileObject source = new SimpleJavaFileObject(URI.create("string:///" + EXAMPLE + ".java"),
                JavaFileObject.Kind.SOURCE) {
            @Override
            public CharSequence getCharContent(boolean ignoreErrors) {
                return text;
            }
        };
        List<String> options = List.of("-cp", classes, "-d", classes);
        if (!compiler.getTask(null, null, null, options, null, List.of(source)).call()) {
            throw new AssertionError("README's example does not compile");
        }
    }

    private static void files(String readme) {
        promise("README's files");
        Matcher named = NAMED.matcher(readme);
        int count = 0;
        while (named.find()) {
            String path = named.group(1);
            due(path + " is there", true, () -> isThere(path));
            count++;
        }
        int found = count;
        due("names files", true, () -> found > 0);
    }

    private static boolean isThere(String path) throws IOException {
        if (!path.endsWith("/*.java")) {
            return Files.exists(Path.of(path));
        }
        return !javaFiles(path.substring(0, path.length() - "/*.java".length())).isEmpty();
    }

    private static void tests(String readme) throws IOException {
        promise("README's tests");
        for (String test : javaFiles("src/test/java")) {
            due(test + " is named", true, () -> readme.contains("`" + test + "`"));
        }
    }

    private static List<String> javaFiles(String folder) throws IOException {
        List<String> names = new ArrayList<>();
        try (Stream<Path> all = Files.list(Path.of(folder))) {
            all.map(Path::toString).filter(name -> name.endsWith(".java")).sorted().forEach(names::add);
        }
        return names;
    }
}
