import java.io.ByteArrayOutputStream;
import java.io.IOException;
import java.io.PrintStream;
import java.lang.reflect.Method;
import java.lang.reflect.Modifier;
import java.net.URL;
import java.net.URLClassLoader;
import java.nio.charset.StandardCharsets;
import java.nio.file.Files;
import java.nio.file.Path;
import javax.tools.JavaCompiler;
import javax.tools.ToolProvider;

/** README.md tells every call, and the program in it compiles and prints what stands below it. */
public final class ReadmeTest {
    public static void main(String[] args) throws Exception {
        String readme = Files.readString(Path.of("README.md"));
        for (Method m : SungWords.class.getDeclaredMethods()) {
            if (Modifier.isPublic(m.getModifiers())) {
                Checks.same("README has a row for " + m.getName(), rowsFor(m, readme), 1);
            }
        }
        JavaCompiler compiler = ToolProvider.getSystemJavaCompiler();
        if (compiler == null) {
            System.out.println("this java has no compiler of its own, so that README's program is not run");
        } else {
            String printed = printedBy(compiler, block(readme, "java"));
            Checks.same("what README's program prints", printed, block(readme, "text"));
        }
        Checks.same("README tells how to run the tests", readme.contains("```sh\n.ci/run\n```"), true);
        Checks.finish();
    }

    private static long rowsFor(Method m, String readme) {
        String head = "| `" + m.getName() + "(";
        return readme.lines()
                .filter(l -> l.startsWith(head))
                .filter(l -> parameters(l.substring(head.length(), l.indexOf(')'))) == m.getParameterCount())
                .count();
    }

    private static int parameters(String list) {
        return list.isEmpty() ? 0 : list.split(",").length;
    }

    /** What stands between the first fence of this kind and the next one. */
    private static String block(String readme, String kind) {
        String fence = "```" + kind + "\n";
        int from = readme.indexOf(fence);
        Checks.same("README has a block of " + kind, from >= 0, true);
        int to = readme.indexOf("```", from + fence.length());
        return from < 0 || to < 0 ? "" : readme.substring(from + fence.length(), to);
    }

    private static String printedBy(JavaCompiler compiler, String program) throws Exception {
        Path folder = Files.createTempDirectory("readme");
        Path file = folder.resolve("Song.java");
        Files.writeString(file, program);
        try {
            int code = compiler.run(null, null, null, "-Xlint:all", "-Werror",
                    "-cp", System.getProperty("java.class.path"), "-d", folder.toString(), file.toString());
            Checks.same("README's program compiles", code, 0);
            return code == 0 ? runMain(folder) : "";
        } finally {
            Files.deleteIfExists(folder.resolve("Song.class"));
            Files.delete(file);
            Files.delete(folder);
        }
    }

    private static String runMain(Path folder) throws ReflectiveOperationException, IOException {
        ByteArrayOutputStream printed = new ByteArrayOutputStream();
        PrintStream screen = System.out;
        System.setOut(new PrintStream(printed, true, StandardCharsets.UTF_8));
        try (URLClassLoader loader = new URLClassLoader(new URL[] {folder.toUri().toURL()})) {
            loader.loadClass("Song").getMethod("main", String[].class).invoke(null, (Object) new String[0]);
        } finally {
            System.setOut(screen);
        }
        return printed.toString(StandardCharsets.UTF_8).replace(System.lineSeparator(), "\n");
    }
}
