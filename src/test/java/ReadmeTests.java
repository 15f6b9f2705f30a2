import java.io.ByteArrayOutputStream;
import java.io.File;
import java.io.PrintStream;
import java.lang.reflect.Field;
import java.lang.reflect.Method;
import java.lang.reflect.Modifier;
import java.net.URL;
import java.net.URLClassLoader;
import java.nio.charset.StandardCharsets;
import java.nio.file.Files;
import java.nio.file.Path;
import java.nio.file.Paths;
import java.util.regex.Matcher;
import java.util.regex.Pattern;
import javax.tools.ToolProvider;

/** That README.md says what is so: its example prints what stands below it, and it names every call and every test. */
public final class ReadmeTests {
    public static void main(String[] args) throws Exception {
        String page = new String(Files.readAllBytes(Paths.get("README.md")), StandardCharsets.UTF_8);
        example(page);
        names(page);
        Desk.end();
    }

    /** The first block of the page that is told to be of a language; empty, if there is none. */
    private static String block(String page, String language) {
        Matcher m = Pattern.compile("(?ms)^```" + language + "\n(.*?)^```$").matcher(page);
        return m.find() ? m.group(1) : "";
    }

    private static void example(String page) throws Exception {
        String told = block(page, "text");
        Desk.isTrue("README.md tells what the example prints", !told.isEmpty());
        Path folder = Files.createTempDirectory("readme");
        Path source = folder.resolve("Example.java");
        Files.write(source, block(page, "java").getBytes(StandardCharsets.UTF_8));
        int failed = ToolProvider.getSystemJavaCompiler().run(null, null, null,
            "-cp", System.getProperty("java.class.path"), "-d", folder.toString(), source.toString());
        Desk.due("compiling the example", failed, 0);
        if (failed == 0) {
            String printed = printedBy(folder);
            Desk.isTrue("the example prints what README.md tells, not:\n" + printed, printed.equals(told));
        }
        for (File file : folder.toFile().listFiles()) {
            Files.delete(file.toPath());
        }
        Files.delete(folder);
    }

    private static String printedBy(Path folder) throws Exception {
        PrintStream before = System.out;
        ByteArrayOutputStream printed = new ByteArrayOutputStream();
        try (URLClassLoader loader = new URLClassLoader(new URL[] {folder.toUri().toURL()})) {
            System.setOut(new PrintStream(printed, true, "UTF-8"));
            loader.loadClass("Example").getMethod("main", String[].class).invoke(null, (Object) new String[0]);
        } finally {
            System.setOut(before);
        }
        return printed.toString("UTF-8").replace(System.lineSeparator(), "\n");
    }

    private static void names(String page) {
        for (Method m : SandKeepers.class.getDeclaredMethods()) {
            if (Modifier.isPublic(m.getModifiers())) {
                Matcher row = Pattern.compile("`" + m.getName() + "\\(([^)]*)\\)`").matcher(page);
                boolean named = row.find();
                Desk.isTrue("README.md names " + m.getName(), named);
                int told = !named || row.group(1).isEmpty() ? 0 : row.group(1).split(",").length;
                Desk.due("README.md: how many numbers " + m.getName() + " takes", told, m.getParameterCount());
            }
        }
        for (Field f : SandKeepers.class.getDeclaredFields()) {
            if (Modifier.isPublic(f.getModifiers())) {
                Desk.isTrue("README.md names " + f.getName(), page.contains("`" + f.getName() + "`"));
            }
        }
        for (String file : new File("src/test/java").list()) {
            String name = file.replace(".java", "");
            Desk.isTrue("README.md names " + name, page.contains("`" + name + "`"));
        }
        Desk.isTrue("README.md tells of .ci/run", page.contains("`.ci/run`"));
    }
}
