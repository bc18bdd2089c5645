import java.io.ByteArrayOutputStream;
import java.io.PrintStream;
import java.net.URL;
import java.net.URLClassLoader;
import java.nio.file.Files;
import java.nio.file.Path;
import java.util.regex.Matcher;
import java.util.regex.Pattern;
import javax.tools.JavaCompiler;
import javax.tools.ToolProvider;

/** The example of README.md is compiled and run: it prints what README.md says, and each call of the face is named there. */
public final class ReadmeTest {
    public static void main(String[] args) throws Exception {
        String readme = Files.readString(Path.of("README.md"));
        String due = block(readme, "text");
        String got = printed(block(readme, "java"));
        boolean wrong = !got.equals(due);
        if (wrong) System.out.println("the example prints\n" + got + "README.md says\n" + due);
        for (java.lang.reflect.Method m : MadeWhere.class.getMethods()) {
            if (m.getDeclaringClass() != MadeWhere.class || readme.contains("`" + m.getName() + "`")
                || readme.contains("`" + m.getName() + "(")) continue;
            wrong = true;
            System.out.println("README.md does not name " + m.getName());
        }
        System.out.println(wrong ? "README.md is not as due" : "README.md is as due");
        if (wrong) System.exit(1);
    }

    private static String block(String readme, String kind) {
        Matcher m = Pattern.compile("```" + kind + "\n(.*?)```", Pattern.DOTALL).matcher(readme);
        return m.find() ? m.group(1) : "no block of " + kind;
    }

    private static String printed(String example) throws Exception {
        Path dir = Files.createTempDirectory("example");
        Path file = dir.resolve("Example.java");
        Files.writeString(file, example);
        JavaCompiler javac = ToolProvider.getSystemJavaCompiler();
        String path = System.getProperty("java.class.path");
        int failed = javac.run(null, null, null, "-d", dir.toString(), "-cp", path, file.toString());
        if (failed != 0) return "nothing: it is not compiled\n";
        PrintStream out = System.out;
        ByteArrayOutputStream bytes = new ByteArrayOutputStream();
        try (URLClassLoader loader = new URLClassLoader(new URL[] {dir.toUri().toURL()})) {
            System.setOut(new PrintStream(bytes, true));
            loader.loadClass("Example").getMethod("main", String[].class).invoke(null, (Object) new String[0]);
        } finally {
            System.setOut(out);
            for (String name : new String[] {"Example.class", "Example.java"}) Files.deleteIfExists(dir.resolve(name));
            Files.deleteIfExists(dir);
        }
        return bytes.toString().replace("\r\n", "\n");
    }
}
