import java.io.IOException;
import java.lang.invoke.MethodHandles;
import java.nio.file.Files;
import java.nio.file.Path;
import java.util.ArrayList;
import java.util.List;
import java.util.Set;
import java.util.TreeSet;
import java.util.regex.Matcher;
import java.util.regex.Pattern;
import javax.tools.ToolProvider;

/**
 * README.md's example, compiled and run as it stands there: each call with an answer behind it must be
 * answered so. Every block of Java that begins with "static" is a method, all others are one run of calls.
 */
public final class ReadmeTest {
    private static final Path README = Path.of("README.md");
    private static final Pattern BLOCK = Pattern.compile("^```java\\n(.*?)^```$", Pattern.DOTALL | Pattern.MULTILINE);
    private static final Pattern ANSWERED = Pattern.compile("(x\\.(\\w+)\\(.*\\)); *// (throws )?(-?\\w+)(: .*)?");
    private static final Pattern STATEMENT = Pattern.compile("^\\| `([^`]*;)` \\|", Pattern.MULTILINE);
    private static final String[] SHOWN = {"load", "arrive", "tick", "undo"};

    private ReadmeTest() {
    }

    public static void main(String[] args) throws IOException, ReflectiveOperationException {
        StringBuilder methods = new StringBuilder();
        StringBuilder calls = new StringBuilder();
        Matcher block = BLOCK.matcher(Files.readString(README));
        while (block.find()) {
            (block.group(1).startsWith("static ") ? methods : calls).append(block.group(1));
        }
        everyCallHasItsAnswer(calls.toString());
        run("final class ReadmeExample {\n" + methods + "static void play() {\n" + checked(calls.toString()) + "}\n"
                + "static void due(String call, java.util.concurrent.Callable<Object> made, String want) {\n"
                + "String got;\n"
                + "try { got = String.valueOf(made.call()); }\n"
                + "catch (Exception thrown) { got = \"throws.\" + thrown.getClass().getSimpleName(); }\n"
                + "Check.same(\"README: \" + call, got, want);\n"
                + "}\n}\n");
        statementsOfTheTable();
        Check.end();
    }

    /** They are a setup text, one after the other. */
    private static void statementsOfTheTable() throws IOException {
        StringBuilder text = new StringBuilder();
        Matcher statement = STATEMENT.matcher(Files.readString(README));
        while (statement.find()) {
            text.append(statement.group(1));
        }
        HomeGateway x = new HomeGateway();
        Check.same("README: load of " + text, Check.load(x, text.toString()), 1);
        Check.same("README: rules of " + text, x.ruleCount(), 1);
    }

    private static void everyCallHasItsAnswer(String calls) {
        Set<String> answered = new TreeSet<>();
        for (String line : calls.split("\n")) {
            Matcher call = ANSWERED.matcher(line);
            if (call.matches()) {
                answered.add(call.group(2));
            } else {
                Check.no("README shows a call without an answer: " + line, line.startsWith("x."));
            }
        }
        for (String method : SHOWN) {
            Check.yes("README shows a call of " + method, answered.contains(method));
        }
    }

    private static String checked(String calls) {
        StringBuilder program = new StringBuilder();
        for (String line : calls.split("\n")) {
            Matcher call = ANSWERED.matcher(line);
            if (call.matches()) {
                String want = (call.group(3) == null ? "" : "throws.") + call.group(4);
                program.append("due(" + quoted(call.group(1)) + ", () -> " + call.group(1) + ", " + quoted(want) + ");\n");
            } else {
                program.append(line).append('\n');
            }
        }
        return program.toString();
    }

    private static String quoted(String text) {
        return '"' + text.replace("\\", "\\\\").replace("\"", "\\\"") + '"';
    }

    /** The class is defined beside this one, so that it may use Check. */
    private static void run(String program) throws IOException, ReflectiveOperationException {
        Path directory = Files.createTempDirectory("readme");
        Path source = directory.resolve("ReadmeExample.java");
        Path compiled = directory.resolve("ReadmeExample.class");
        Files.writeString(source, program);
        List<String> options = new ArrayList<>(List.of("--release", "17", "-proc:none", "-implicit:none"));
        options.addAll(List.of("-cp", System.getProperty("java.class.path"), "-d", directory.toString()));
        options.add(source.toString());
        int failed = ToolProvider.getSystemJavaCompiler().run(null, null, null, options.toArray(new String[0]));
        Check.same("README's example compiles: javac", failed, 0);
        if (failed == 0) {
            byte[] bytes = Files.readAllBytes(compiled);
            MethodHandles.Lookup here = MethodHandles.lookup();
            Class<?> example = here.defineClass(bytes);
            example.getDeclaredMethod("play").invoke(null);
        }
        Files.deleteIfExists(compiled);
        Files.deleteIfExists(source);
        Files.deleteIfExists(directory);
    }
}
