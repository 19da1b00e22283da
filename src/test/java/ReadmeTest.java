import java.io.IOException;
import java.net.URL;
import java.net.URLClassLoader;
import java.nio.file.Files;
import java.nio.file.Path;
import java.util.regex.Matcher;
import java.util.regex.Pattern;
import java.util.stream.Stream;
import javax.tools.JavaCompiler;
import javax.tools.ToolProvider;

/** The example of README.md compiles, and its calls give what their comments say. */
public final class ReadmeTest {
    private static final Pattern EXAMPLE = Pattern.compile("```java\n(.*?)```", Pattern.DOTALL);
    private static final Pattern GIVES = Pattern.compile("\\w+ (\\w+) = [^;]+; +// gives (\\S+): .*");
    private static final String[] CALLS = {"cells", "choose", "put", "step", "run", "cell", "flux", "sum", "time",
        "count"};
    private static final Checks CHECKS = new Checks();

    public static void main(String[] args) throws Exception {
        Matcher example = EXAMPLE.matcher(Files.readString(Path.of("README.md")));
        boolean found = example.find();
        CHECKS.holds("README.md has an example", found);
        if (found) {
            String code = example.group(1);
            for (String call : CALLS) {
                CHECKS.holds("the example shows " + call, code.contains("grid." + call + "("));
            }
            Path place = Files.createTempDirectory("readme");
            try {
                answers(code, place);
            } finally {
                remove(place);
            }
        }
        CHECKS.end();
    }

    private static void answers(String code, Path place) throws Exception {
        StringBuilder names = new StringBuilder();
        StringBuilder due = new StringBuilder();
        Matcher gives = GIVES.matcher(code);
        while (gives.find()) {
            names.append(" + \" ").append(gives.group(1)).append(" \" + ").append(gives.group(1));
            due.append(' ').append(gives.group(1)).append(' ').append(gives.group(2));
        }
        CHECKS.holds("the example tells what calls give", due.length() > 0);
        Path file = place.resolve("Example.java");
        Files.writeString(file, "public final class Example {\npublic static String told() {\n" + code
                + "return \"\"" + names + ";\n}\n}\n");
        JavaCompiler compiler = ToolProvider.getSystemJavaCompiler();
        int outcome = compiler.run(null, null, null, "--release", "17", "-cp", System.getProperty("java.class.path"),
                "-d", place.toString(), file.toString());
        CHECKS.holds("the example compiles", outcome == 0);
        if (outcome == 0) {
            try (URLClassLoader loader = new URLClassLoader(new URL[] {place.toUri().toURL()})) {
                Object told = loader.loadClass("Example").getMethod("told").invoke(null);
                CHECKS.same("the example", told.toString(), due.toString());
            }
        }
    }

    private static void remove(Path place) throws IOException {
        try (Stream<Path> files = Files.list(place)) {
            for (Path file : files.toList()) {
                Files.delete(file);
            }
        }
        Files.delete(place);
    }
}
