import java.io.ByteArrayOutputStream;
import java.io.File;
import java.io.IOException;
import java.io.PrintStream;
import java.net.URL;
import java.net.URLClassLoader;
import java.nio.charset.StandardCharsets;
import java.nio.file.Files;
import java.nio.file.Path;
import javax.tools.ToolProvider;

/** README.md's example compiles, and prints just what README.md says it prints. */
public final class ReadmeTest {
    public static void main(String[] args) throws Exception {
        Checks c = new Checks();
        String readme = Document.read("README.md");
        String example = blockOf(readme, "java");
        Path folder = Files.createTempDirectory("readme");
        try {
            c.due("README.md's example compiles", compile(folder, example), 0);
            c.same("README.md's example", outputOf(folder), blockOf(readme, "text"));
        } finally {
            remove(folder);
        }
        c.end();
    }

    /** The first fenced block of this kind. */
    private static String blockOf(String readme, String kind) {
        String fence = "```" + kind + "\n";
        int start = readme.indexOf(fence);
        int end = start < 0 ? -1 : readme.indexOf("```", start + fence.length());
        return end < 0 ? "no block " + kind : readme.substring(start + fence.length(), end);
    }

    private static int compile(Path folder, String example) throws IOException {
        Path source = folder.resolve("Example.java");
        Files.writeString(source, example);
        return ToolProvider.getSystemJavaCompiler().run(null, null, null,
                "-cp", System.getProperty("java.class.path"), "-d", folder.toString(), source.toString());
    }

    private static String outputOf(Path folder) throws Exception {
        PrintStream before = System.out;
        ByteArrayOutputStream printed = new ByteArrayOutputStream();
        try (URLClassLoader loader = new URLClassLoader(new URL[] {folder.toUri().toURL()})) {
            System.setOut(new PrintStream(printed, true, StandardCharsets.UTF_8));
            loader.loadClass("Example").getMethod("main", String[].class).invoke(null, (Object) new String[0]);
        } finally {
            System.setOut(before);
        }
        return printed.toString(StandardCharsets.UTF_8).replace(System.lineSeparator(), "\n");
    }

    private static void remove(Path folder) {
        File[] files = folder.toFile().listFiles();
        for (File file : files == null ? new File[0] : files) {
            file.delete();
        }
        folder.toFile().delete();
    }
}
