import java.io.IOException;
import java.lang.reflect.Method;
import java.lang.reflect.Modifier;
import java.net.URL;
import java.net.URLClassLoader;
import java.nio.file.Files;
import java.nio.file.Path;
import java.util.ArrayList;
import java.util.List;
import java.util.regex.Matcher;
import java.util.regex.Pattern;
import java.util.stream.Stream;
import javax.tools.ToolProvider;

/** README.md shows each call of the face, each answers what stands behind it, and each test is named there. */
public final class ReadmeTest {
    private static final Pattern LINE = Pattern.compile("\\s*(int \\w+ = )?(.+);\\s+//\\s(throws \\w+|\"[^\"]*\"|-?\\d+|true|false)( .*)?");
    private static int wrong = 0;

    private static void check(boolean isRight, String what) {
        if (!isRight) {
            wrong++;
            System.out.println("wrong: " + what);
        }
    }

    /** The lines of all blocks of Java, in their order. */
    private static List<String> linesOfBlocks(String readme) {
        List<String> lines = new ArrayList<>();
        Matcher blocks = Pattern.compile("(?s)```java\n(.*?)```").matcher(readme);
        while (blocks.find()) lines.addAll(List.of(blocks.group(1).split("\n")));
        return lines;
    }

    /** A program that makes the calls and tells each answer that is not the one in the comment. */
    private static String programOf(List<String> lines) {
        StringBuilder s = new StringBuilder("public final class ReadmeRun {\n"
            + "    interface Call { Object answer(); }\n"
            + "    static int wrong = 0;\n"
            + "    static void due(String what, Call call, String want) {\n"
            + "        String got;\n"
            + "        try {\n"
            + "            Object g = call.answer();\n"
            + "            got = g instanceof String ? '\"' + (String) g + '\"' : String.valueOf(g);\n"
            + "        } catch (RuntimeException e) {\n"
            + "            got = \"throws \" + e.getClass().getSimpleName();\n"
            + "        }\n"
            + "        if (!got.equals(want)) { wrong++; System.out.println(\"README.md: \" + what + \" answers \" + got + \", not \" + want); }\n"
            + "    }\n"
            + "    public static int run() {\n");
        for (String line : lines) {
            Matcher m = LINE.matcher(line);
            if (line.equals("Derivationdesk desk = new Derivationdesk();")) {
                s.append("        ").append(line).append("\n");
            } else if (m.matches()) {
                String name = m.group(1) == null ? null : m.group(1).split(" ")[1];
                String call = m.group(2);
                if (name != null) {
                    s.append("        int ").append(name).append(" = ").append(call).append(";\n");
                    call = name;
                }
                s.append("        due(").append(quoted(m.group(2))).append(", () -> ").append(call).append(", ")
                    .append(quoted(m.group(3))).append(");\n");
            } else {
                check(line.isBlank(), "README.md tells no answer: " + line);
            }
        }
        return s.append("        return wrong;\n    }\n}\n").toString();
    }

    private static String quoted(String text) {
        return '"' + text.replace("\\", "\\\\").replace("\"", "\\\"") + '"';
    }

    private static void run(String program) throws Exception {
        Path directory = Files.createTempDirectory("readme");
        Path source = directory.resolve("ReadmeRun.java");
        Files.writeString(source, program);
        int code = ToolProvider.getSystemJavaCompiler().run(null, null, null, "-proc:none", "-cp", System.getProperty("java.class.path"),
            "-d", directory.toString(), source.toString());
        check(code == 0, "the blocks of README.md compile");
        if (code == 0) {
            try (URLClassLoader loader = new URLClassLoader(new URL[] {directory.toUri().toURL()}, ReadmeTest.class.getClassLoader())) {
                Method run = loader.loadClass("ReadmeRun").getDeclaredMethod("run");
                run.setAccessible(true);
                wrong += (int) run.invoke(null);
            }
        }
        try (Stream<Path> files = Files.list(directory)) {
            for (Path file : files.toList()) Files.delete(file);
        }
        Files.delete(directory);
    }

    private static void checkCalls(List<String> lines) {
        String all = String.join("\n", lines);
        for (Method m : Derivationdesk.class.getDeclaredMethods()) {
            if (Modifier.isPublic(m.getModifiers())) {
                check(all.contains("desk." + m.getName() + "("), "README.md shows " + m.getName() + "()");
            }
        }
    }

    private static void checkTestsNamed(String readme) throws IOException {
        try (Stream<Path> files = Files.list(Path.of("src/test/java"))) {
            for (Path file : files.toList()) {
                String name = file.getFileName().toString();
                check(readme.contains("src/test/java/" + name), "README.md names " + name);
            }
        }
        check(readme.contains(".ci/run") && Files.isExecutable(Path.of(".ci/run")), ".ci/run can be run");
    }

    public static void main(String[] args) throws Exception {
        String readme = Files.readString(Path.of("README.md"));
        List<String> lines = linesOfBlocks(readme);
        checkCalls(lines);
        checkTestsNamed(readme);
        run(programOf(lines));
        System.out.println(wrong == 0 ? "all " + lines.size() + " lines of README.md answer as they say" : wrong + " things are wrong");
        System.exit(wrong == 0 ? 0 : 1);
    }
}
