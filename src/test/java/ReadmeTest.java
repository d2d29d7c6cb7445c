import java.io.ByteArrayOutputStream;
import java.io.File;
import java.io.IOException;
import java.io.PrintStream;
import java.lang.reflect.Method;
import java.lang.reflect.Modifier;
import java.net.URL;
import java.net.URLClassLoader;
import java.nio.charset.StandardCharsets;
import java.nio.file.Files;
import java.nio.file.Path;
import java.util.Arrays;
import javax.tools.JavaCompiler;
import javax.tools.StandardJavaFileManager;
import javax.tools.ToolProvider;

/** README.md says how to use the class: its program runs and prints what is said; its tables leave nothing out. */
public final class ReadmeTest {
    private static final Path README = Path.of("README.md");
    private static final Path ROOM = Path.of("build/readme");

    private ReadmeTest() {
    }

    public static void main(String[] args) throws IOException, ReflectiveOperationException {
        String readme = Files.readString(README);
        String program = block(readme, "java");
        compile(program);
        Checks.holds("it prints what README.md says: " + printed(), printed().equals(block(readme, "text")));
        namesAllCalls(readme);
        namesAllTests(readme);
        Checks.finish("ReadmeTest");
    }

    /** The first block of a sort. */
    private static String block(String readme, String sort) {
        String open = "\n```" + sort + "\n";
        int from = readme.indexOf(open);
        int to = readme.indexOf("\n```\n", from + 1);
        Checks.holds("a block of " + sort, from >= 0 && to > from);
        return from < 0 || to < from ? "" : readme.substring(from + open.length(), to + 1);
    }

    private static void compile(String program) throws IOException {
        Files.createDirectories(ROOM);
        File file = ROOM.resolve("Example.java").toFile();
        Files.writeString(file.toPath(), program);
        JavaCompiler compiler = ToolProvider.getSystemJavaCompiler();
        StandardJavaFileManager files = compiler.getStandardFileManager(null, null, null);
        boolean good = compiler.getTask(null, files, null, Arrays.asList("-d", ROOM.toString(), "-cp",
            System.getProperty("java.class.path")), null, files.getJavaFileObjects(file)).call();
        Checks.holds("it compiles", good);
    }

    private static String printed() throws IOException, ReflectiveOperationException {
        ByteArrayOutputStream bytes = new ByteArrayOutputStream();
        PrintStream before = System.out;
        URL[] room = {ROOM.toUri().toURL()};
        try (URLClassLoader loader = new URLClassLoader(room); PrintStream out = new PrintStream(bytes)) {
            System.setOut(out);
            loader.loadClass("Example").getMethod("main", String[].class).invoke(null, (Object) new String[0]);
        } finally {
            System.setOut(before);
        }
        return bytes.toString(StandardCharsets.UTF_8).replace(System.lineSeparator(), "\n");
    }

    private static void namesAllCalls(String readme) {
        for (Method m : NineBoards.class.getDeclaredMethods()) {
            if (Modifier.isPublic(m.getModifiers())) {
                Checks.holds("README.md names " + m.getName(), readme.contains("`" + m.getName() + "`"));
            }
        }
    }

    private static void namesAllTests(String readme) {
        String[] files = new File("src/test/java").list();
        Checks.holds("there are tests", files != null && files.length > 0);
        for (String file : files == null ? new String[0] : files) {
            if (file.endsWith("Test.java")) {
                Checks.holds("README.md names " + file, readme.contains("`" + file.replace(".java", "") + "`"));
            }
        }
    }
}
