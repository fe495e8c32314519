import java.io.IOException;
import java.lang.reflect.Method;
import java.lang.reflect.Modifier;
import java.net.URL;
import java.net.URLClassLoader;
import java.nio.file.Files;
import java.nio.file.Path;
import java.util.ArrayList;
import java.util.List;
import java.util.Set;
import java.util.TreeSet;
import java.util.regex.Matcher;
import java.util.regex.Pattern;
import javax.tools.ToolProvider;

/**
 * The calls that README.md shows answer as its comments say. They are compiled as they stand there, so
 * that what a reader copies is what was run.
 */
final class ReadmeTest {
    private static final Pattern ANSWER =
            Pattern.compile("(-?[0-9]+|true|false|throws [A-Za-z]+)(:.*)?");
    private static final Pattern CALL = Pattern.compile("\\bcamp\\.([a-z][A-Za-z]*)\\(.*\\);$");
    private static final Pattern NAMED = Pattern.compile("int ([a-z]+) = (.*);");
    private static final String CLASS = "ReadmeCalls";

    private static final List<String> SHOWN = new ArrayList<>();
    private static final List<String> DUE = new ArrayList<>();
    private static final Set<String> CALLED = new TreeSet<>();

    private ReadmeTest() {
    }

    private static List<String> linesOfExample() throws IOException {
        List<String> lines = new ArrayList<>();
        boolean inside = false;
        for (String line : Files.readAllLines(Path.of("README.md"))) {
            if (line.startsWith("```")) {
                inside = line.equals("```java");
            } else if (inside) {
                lines.add(line);
            }
        }
        return lines;
    }

    /** The line as it is run: its answer is kept, in the order of the lines. */
    private static String kept(String line) {
        int slashes = line.indexOf("//");
        String code = slashes < 0 ? line.strip() : line.substring(0, slashes).strip();
        String comment = slashes < 0 ? "" : line.substring(slashes + 2).strip();
        Matcher call = CALL.matcher(code);
        Matcher answer = ANSWER.matcher(comment);
        boolean isCall = call.find();
        boolean isAnswered = isCall && answer.matches();
        if (isCall) {
            CALLED.add(call.group(1));
            Check.due("an answer is shown: " + line, isAnswered, !answersNothing(call.group(1)));
        }
        if (!isAnswered) {
            return code;
        }
        SHOWN.add(line);
        DUE.add(answer.group(1));
        if (answer.group(1).startsWith("throws ")) {
            return "try { " + code + " told.add(\"nothing thrown\"); } catch (RuntimeException thrown) {"
                    + " told.add(\"throws \" + thrown.getClass().getSimpleName()); }";
        }
        Matcher named = NAMED.matcher(code);
        return named.matches()
                ? code + " told.add(String.valueOf(" + named.group(1) + "));"
                : "told.add(String.valueOf(" + code.substring(0, code.length() - 1) + "));";
    }

    private static Set<String> face(boolean onlyWithoutAnswer) {
        Set<String> names = new TreeSet<>();
        for (Method method : NuggetCamp.class.getDeclaredMethods()) {
            boolean wanted = !onlyWithoutAnswer || method.getReturnType() == void.class;
            if (Modifier.isPublic(method.getModifiers()) && wanted) {
                names.add(method.getName());
            }
        }
        return names;
    }

    private static boolean answersNothing(String call) {
        return face(true).contains(call);
    }

    private static String program(List<String> lines) {
        StringBuilder program = new StringBuilder();
        program.append("public final class ").append(CLASS).append(" {\n");
        program.append("public static java.util.List<String> tell() {\n");
        program.append("java.util.List<String> told = new java.util.ArrayList<>();\n");
        for (String line : lines) {
            program.append(kept(line)).append('\n');
        }
        return program.append("return told;\n}\n}\n").toString();
    }

    private static List<?> run(String program, Path folder) throws Exception {
        Path source = Files.writeString(folder.resolve(CLASS + ".java"), program);
        int failed = ToolProvider.getSystemJavaCompiler().run(null, null, null, "-d", folder.toString(),
                "-cp", System.getProperty("java.class.path"), source.toString());
        Check.due("README.md's example does not compile", failed, 0);
        if (failed != 0) {
            return new ArrayList<String>();
        }
        try (URLClassLoader loader = new URLClassLoader(new URL[] {folder.toUri().toURL()})) {
            return (List<?>) loader.loadClass(CLASS).getMethod("tell").invoke(null);
        }
    }

    private static void remove(Path folder) throws IOException {
        Files.deleteIfExists(folder.resolve(CLASS + ".java"));
        Files.deleteIfExists(folder.resolve(CLASS + ".class"));
        Files.delete(folder);
    }

    public static void main(String[] args) throws Exception {
        String program = program(linesOfExample());
        Path folder = Files.createTempDirectory("readme");
        try {
            List<?> told = run(program, folder);
            Check.due("answers in README.md", told.size(), DUE.size());
            for (int i = 0; i < Math.min(told.size(), DUE.size()); i++) {
                Check.due("README.md: " + SHOWN.get(i), String.valueOf(told.get(i)), DUE.get(i));
            }
        } finally {
            remove(folder);
        }
        Check.due("calls that README.md shows", CALLED.toString(), face(false).toString());
        Check.end();
    }
}
