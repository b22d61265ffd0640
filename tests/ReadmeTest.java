import java.io.IOException;
import java.lang.invoke.MethodHandles;
import java.lang.reflect.Method;
import java.lang.reflect.Modifier;
import java.nio.file.Files;
import java.nio.file.Path;
import java.util.List;
import java.util.Set;
import java.util.TreeSet;
import java.util.regex.Matcher;
import java.util.regex.Pattern;
import java.util.stream.Stream;
import javax.tools.JavaCompiler;
import javax.tools.ToolProvider;

/**
 * What README.md says is so: its lines of Java compile, each call among them answers what stands behind
 * it, each call of the class is shown, and the tests that it names are those that there are.
 */
final class ReadmeTest {
    private static final Path README = Path.of("README.md");
    private static final String SHOWN = "ReadmeCalls";

    /** A call, perhaps with a variable for its answer; the answer; perhaps why, behind a colon. */
    private static final Pattern CALL = Pattern.compile("(?:\\w+ (\\w+) = )?(market\\..+); +// ([^:]+)(?::.*)?");

    public static void main(String[] args) throws IOException, ReflectiveOperationException {
        List<String> lines = Files.readAllLines(README);
        shownCallsAnswer(source(lines));
        eachCallIsShown(lines);
        namedTestsAreThere(String.join("\n", lines));
        Check.end("ReadmeTest");
    }

    /** The lines of Java, one behind the other, each call checked against its answer. */
    private static String source(List<String> lines) {
        StringBuilder text = new StringBuilder("final class " + SHOWN + " {\n    static void run() {\n");
        boolean isJava = false;
        for (int at = 0; at < lines.size(); at++) {
            String line = lines.get(at);
            if (line.startsWith("```")) {
                isJava = line.equals("```java");
            } else if (isJava) {
                text.append(checked(line, "README.md, line " + (at + 1) + ": ")).append('\n');
            }
        }
        return text.append("    }\n}\n").toString();
    }

    private static String checked(String line, String where) {
        Matcher call = CALL.matcher(line);
        if (!call.matches()) {
            Check.due(where + "tells its answer", line.contains("market."), false);
            return line;
        }
        String variable = call.group(1);
        String shown = call.group(2);
        String name = "\"" + where + shown + "\"";
        String due = call.group(3);
        if (due.startsWith("throws ")) {
            String thrown = due.substring("throws ".length());
            return "Check.due(" + name + ", Check.thrownBy(() -> " + shown + "), \"" + thrown + "\");";
        }
        String literal = due.matches("-?[0-9]+") ? due + "L" : due;
        String declared = variable == null ? "" : line.substring(0, line.indexOf(';') + 1) + " ";
        return declared + "Check.due(" + name + ", " + (variable == null ? shown : variable) + ", " + literal + ");";
    }

    private static void shownCallsAnswer(String source) throws IOException, ReflectiveOperationException {
        Path room = Files.createTempDirectory("readme");
        Path file = Files.writeString(room.resolve(SHOWN + ".java"), source);
        Path compiled = room.resolve(SHOWN + ".class");
        JavaCompiler compiler = ToolProvider.getSystemJavaCompiler();
        int wrong = compiler.run(null, null, null, "--release", "17", "-d", room.toString(),
                "-cp", System.getProperty("java.class.path"), file.toString());
        Check.due("README.md: its Java compiles", wrong, 0);
        if (wrong == 0) {
            Class<?> shown = MethodHandles.lookup().defineClass(Files.readAllBytes(compiled));
            shown.getDeclaredMethod("run").invoke(null);
        }
        Files.deleteIfExists(compiled);
        Files.delete(file);
        Files.delete(room);
    }

    private static void eachCallIsShown(List<String> lines) {
        Set<String> shown = new TreeSet<>();
        for (String line : lines) {
            Matcher call = CALL.matcher(line);
            if (call.matches()) {
                shown.add(call.group(2).replaceAll("market\\.(\\w+).*", "$1"));
            }
        }
        Set<String> due = new TreeSet<>();
        for (Method method : OldMeasures.class.getDeclaredMethods()) {
            if (Modifier.isPublic(method.getModifiers())) {
                due.add(method.getName());
            }
        }
        Check.due("README.md: the calls that it shows", shown.toString(), due.toString());
    }

    private static void namedTestsAreThere(String text) throws IOException {
        Set<String> named = new TreeSet<>();
        Matcher name = Pattern.compile("`([A-Z]\\w*Test)`").matcher(text);
        while (name.find()) {
            named.add(name.group(1));
        }
        Set<String> due = new TreeSet<>();
        try (Stream<Path> files = Files.list(Path.of("tests"))) {
            files.map(file -> file.getFileName().toString())
                    .filter(file -> file.endsWith("Test.java"))
                    .forEach(file -> due.add(file.replace(".java", "")));
        }
        Check.due("README.md: the tests that it names", named.toString(), due.toString());
    }
}
