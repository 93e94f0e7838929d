import java.io.IOException;
import java.io.StringWriter;
import java.lang.reflect.Method;
import java.lang.reflect.Modifier;
import java.net.URL;
import java.net.URLClassLoader;
import java.nio.file.Files;
import java.nio.file.Path;
import java.util.ArrayList;
import java.util.List;
import java.util.regex.Matcher;
import java.util.regex.Pattern;
import javax.tools.JavaCompiler;
import javax.tools.StandardJavaFileManager;
import javax.tools.ToolProvider;

/** README.md tells the truth: its examples compile and answer what stands behind them, and it names each call. */
public final class ReadmeTest {
    /** A line of an example whose answer is told: maybe a declaration, a call, and a number in the remark. */
    private static final Pattern TOLD = Pattern.compile("(?:(int|long) (\\w+) = )?(x\\.\\w+\\(.*\\)); +// (-?\\d+)(?:: .*)?");
    private static final Pattern BLOCK = Pattern.compile("(?s)```java\n(.*?)```");
    private static int wrong = 0;
    private static int answers = 0;

    private static void fault(String what) {
        wrong++;
        System.out.println(what);
    }

    /** Called by the examples, once they are compiled. */
    public static void due(String call, long got, long want) {
        answers++;
        if (got != want) {
            fault("README.md: " + call + " answers " + got + ", but " + want + " stands there");
        }
    }

    private static String checked(String line) {
        Matcher m = TOLD.matcher(line);
        if (!m.matches()) {
            if (line.contains("//")) {
                fault("README.md: no answer is seen in: " + line);
            }
            return line;
        }
        String call = m.group(3);
        String got = m.group(2) == null ? call : m.group(2);
        String declared = m.group(2) == null ? "" : m.group(1) + " " + m.group(2) + " = " + call + ";";
        return declared + "ReadmeTest.due(\"" + call + "\", " + got + ", " + m.group(4) + "L);";
    }

    private static String classOf(String name, String block) {
        StringBuilder b = new StringBuilder("public final class " + name + " { public static void run() {\n");
        for (String line : block.split("\n")) {
            b.append(checked(line)).append('\n');
        }
        return b.append("} }\n").toString();
    }

    private static void runExamples(List<String> blocks) throws IOException, ReflectiveOperationException {
        Path folder = Files.createTempDirectory("readme");
        List<Path> sources = new ArrayList<>();
        for (int i = 0; i < blocks.size(); i++) {
            Path source = folder.resolve("Example" + i + ".java");
            Files.writeString(source, classOf("Example" + i, blocks.get(i)));
            sources.add(source);
        }
        if (compile(folder, sources)) {
            URL[] where = {folder.toUri().toURL()};
            try (URLClassLoader loader = new URLClassLoader(where, ReadmeTest.class.getClassLoader())) {
                for (int i = 0; i < blocks.size(); i++) {
                    loader.loadClass("Example" + i).getMethod("run").invoke(null);
                }
            }
        }
        remove(folder);
    }

    private static boolean compile(Path folder, List<Path> sources) throws IOException {
        JavaCompiler compiler = ToolProvider.getSystemJavaCompiler();
        StringWriter said = new StringWriter();
        List<String> options = List.of("-proc:none", "-d", folder.toString(), "-cp", System.getProperty("java.class.path"));
        try (StandardJavaFileManager files = compiler.getStandardFileManager(null, null, null)) {
            boolean is = compiler.getTask(said, files, null, options, null, files.getJavaFileObjectsFromPaths(sources)).call();
            if (!is) {
                fault("README.md: an example doesn't compile: " + said);
            }
            return is;
        }
    }

    private static void remove(Path folder) throws IOException {
        try (var files = Files.list(folder)) {
            for (Path file : files.toList()) {
                Files.delete(file);
            }
        }
        Files.delete(folder);
    }

    public static void main(String[] args) throws IOException, ReflectiveOperationException {
        String readme = Files.readString(Path.of("README.md"));
        for (Method m : LampShapes.class.getDeclaredMethods()) {
            if (Modifier.isPublic(m.getModifiers()) && !readme.contains("`" + m.getName() + "(")) {
                fault("README.md doesn't name " + m.getName());
            }
        }
        if (!readme.contains("bash .ci/run")) {
            fault("README.md doesn't say how the tests are run");
        }
        List<String> blocks = new ArrayList<>();
        Matcher m = BLOCK.matcher(readme);
        while (m.find()) {
            blocks.add(m.group(1));
        }
        runExamples(blocks);
        if (answers == 0) {
            fault("README.md has no example with an answer");
        }
        System.out.println(wrong == 0 ? "the examples answer as README.md says" : wrong + " faults");
        if (wrong != 0) {
            System.exit(1);
        }
    }
}
