import java.io.IOException;
import java.lang.reflect.InvocationTargetException;
import java.net.URL;
import java.net.URLClassLoader;
import java.nio.file.Files;
import java.nio.file.Path;
import java.util.regex.Matcher;
import java.util.regex.Pattern;
import javax.tools.ToolProvider;

/** The program that README.md shows: it compiles, and each call answers what stands behind it. */
public final class ReadmeTest {
    private static final Pattern PROGRAM = Pattern.compile("(?s)```java\n(.*?)```");
    private static final Pattern CALL = Pattern.compile("(int \\w+ = )?(town\\.\\w+\\(.*\\)); *// (NONE|-?\\d+)(:.*)?");
    private static final int LEAST_CALLS = 20;

    private final StringBuilder program = new StringBuilder();
    private int calls;

    private ReadmeTest() {
    }

    public static void main(String[] args) throws IOException, ReflectiveOperationException {
        ReadmeTest test = new ReadmeTest();
        test.read(Files.readString(Path.of("README.md")));
        test.run();
        if (test.calls < LEAST_CALLS) throw new IllegalStateException("only " + test.calls + " calls are shown");
    }

    private void read(String readme) {
        program.append("public final class ReadmeProgram {\n    public static void main(String[] args) {\n");
        program.append("        Checks checks = new Checks();\n");
        Matcher shown = PROGRAM.matcher(readme);
        while (shown.find()) {
            shown.group(1).lines().forEach(this::readLine);
        }
        program.append("        checks.end();\n    }\n}\n");
    }

    /** A call with its answer becomes a check of that; all other lines stand as they are. */
    private void readLine(String line) {
        Matcher call = CALL.matcher(line);
        if (!call.matches()) {
            program.append(line).append('\n');
            return;
        }
        calls++;
        String answer = call.group(3).equals("NONE") ? "AskedTheOtherWayAbout.NONE" : call.group(3);
        String got = "got" + calls;
        program.append("int ").append(got).append(" = ").append(call.group(2)).append(";\n");
        program.append("checks.due(\"README.md: ").append(line.replace("\\", "\\\\").replace("\"", "\\\""));
        program.append("\", ").append(got).append(", ").append(answer).append(");\n");
        if (call.group(1) != null) program.append(call.group(1)).append(got).append(";\n");
    }

    private void run() throws IOException, ReflectiveOperationException {
        Path folder = Files.createTempDirectory("readme");
        Path source = folder.resolve("ReadmeProgram.java");
        Files.writeString(source, program);
        for (Path made : new Path[] {folder, source, folder.resolve("ReadmeProgram.class")}) {
            made.toFile().deleteOnExit();
        }
        String classes = System.getProperty("java.class.path");
        int code = ToolProvider.getSystemJavaCompiler().run(null, null, null, "-cp", classes, "-d", folder.toString(),
                source.toString());
        if (code != 0) throw new IllegalStateException("what README.md shows does not compile");
        // one loader for all, or the program could not use the package's own classes
        URL[] places = {folder.toUri().toURL(), Path.of(classes).toUri().toURL()};
        try (URLClassLoader loader = new URLClassLoader(places, null)) {
            loader.loadClass("ReadmeProgram").getMethod("main", String[].class).invoke(null, (Object) new String[0]);
        } catch (InvocationTargetException e) {
            throw new IllegalStateException("what README.md shows threw", e);
        }
    }
}
