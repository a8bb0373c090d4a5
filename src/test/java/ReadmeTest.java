import java.io.ByteArrayOutputStream;
import java.io.File;
import java.io.IOException;
import java.io.PrintStream;
import java.net.URL;
import java.net.URLClassLoader;
import java.nio.file.Files;
import java.nio.file.Path;
import java.util.Comparator;
import java.util.List;
import java.util.stream.Stream;
import javax.tools.ToolProvider;

/** README.md: the program there compiles, and prints what is said to be printed. */
public final class ReadmeTest {
    private ReadmeTest() {
    }

    public static void main(String[] args) throws IOException, ReflectiveOperationException {
        String readme = Files.readString(Path.of("README.md"));
        Path place = Files.createTempDirectory("readme");
        try {
            Path source = place.resolve("Example.java");
            Files.writeString(source, block(readme, "java"));
            int errors = ToolProvider.getSystemJavaCompiler().run(null, null, null,
                "-cp", System.getProperty("java.class.path"), "-d", place.toString(), source.toString());
            Due.due("errors of the program", errors, 0);
            compare(List.of(printed(place).split("\n")), List.of(block(readme, "text").split("\n")));
        } finally {
            remove(place);
        }
        Due.close();
    }

    private static String block(String readme, String sort) {
        String open = "\n```" + sort + "\n";
        int from = readme.indexOf(open);
        Due.dueTrue("README.md has a block of " + sort, from >= 0);
        return from < 0 ? "" : readme.substring(from + open.length(), readme.indexOf("```", from + open.length()));
    }

    private static String printed(Path place) throws IOException, ReflectiveOperationException {
        PrintStream before = System.out;
        ByteArrayOutputStream bytes = new ByteArrayOutputStream();
        try (URLClassLoader loader = new URLClassLoader(new URL[] {place.toUri().toURL()})) {
            System.setOut(new PrintStream(bytes, true));
            loader.loadClass("Example").getMethod("main", String[].class).invoke(null, (Object) new String[0]);
        } finally {
            System.setOut(before);
        }
        return bytes.toString().replace(System.lineSeparator(), "\n");
    }

    private static void compare(List<String> got, List<String> want) {
        Due.due("lines", got.size(), want.size());
        for (int k = 0; k < Math.min(got.size(), want.size()); k++) {
            Due.dueTrue("line " + k + " printed \"" + got.get(k) + "\", README.md has \"" + want.get(k) + "\"", got.get(k).equals(want.get(k)));
        }
    }

    private static void remove(Path place) throws IOException {
        try (Stream<Path> files = Files.walk(place)) {
            files.sorted(Comparator.reverseOrder()).map(Path::toFile).forEach(File::delete);
        }
    }
}
