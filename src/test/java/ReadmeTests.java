import java.io.ByteArrayOutputStream;
import java.io.IOException;
import java.io.PrintStream;
import java.net.URL;
import java.net.URLClassLoader;
import java.nio.file.Files;
import java.nio.file.Path;
import java.util.ArrayList;
import java.util.List;
import java.util.regex.Matcher;
import java.util.regex.Pattern;
import javax.tools.ToolProvider;

/** What README.md tells about the program's use; it runs in the project's directory. */
public final class ReadmeTests {
    private static final String FIRST_LINE = "public final class Counting {";

    public static void main(String[] args) throws IOException, ReflectiveOperationException {
        String page = Files.readString(Path.of("README.md"));
        answersOfTheProgram(page);
        constants(page);
        Due.end();
    }

    private static void answersOfTheProgram(String page) throws IOException, ReflectiveOperationException {
        Matcher block = Pattern.compile("(?s)```java\n(.*?)```").matcher(page);
        boolean found = block.find() && block.group(1).startsWith(FIRST_LINE);
        Due.is("README.md holds the program", 1, found ? 1 : 0);
        if (!found) {
            return;
        }
        List<String> lines = new ArrayList<>();
        Matcher told = Pattern.compile("println\\((.*)\\); +// (-?\\d+): ").matcher(block.group(1));
        List<Long> answers = new ArrayList<>();
        while (told.find()) {
            lines.add(told.group(1));
            answers.add(Long.parseLong(told.group(2)));
        }
        String[] printed = printedBy(block.group(1)).split("\\R");
        Due.is("each line that is printed is told", printed.length, lines.size());
        for (int i = 0; i < printed.length && i < lines.size(); i++) {
            Due.is("README.md, " + lines.get(i), Long.parseLong(printed[i]), answers.get(i));
        }
    }

    /** Compiled as the page says, with the class's source, and not with what the tests run on. */
    private static String printedBy(String program) throws IOException, ReflectiveOperationException {
        Path room = Files.createTempDirectory("readme");
        Path source = room.resolve("Counting.java");
        try {
            Files.writeString(source, program);
            int exit = ToolProvider.getSystemJavaCompiler().run(null, null, null, "-d", room.toString(),
                "src/main/java/RippleCounts.java", source.toString());
            Due.is("README.md's program compiles", 0, exit);
            return exit == 0 ? run(room) : "";
        } finally {
            empty(room);
        }
    }

    private static String run(Path room) throws IOException, ReflectiveOperationException {
        PrintStream console = System.out;
        ByteArrayOutputStream caught = new ByteArrayOutputStream();
        URL[] places = {room.toUri().toURL()};
        try (URLClassLoader loader = new URLClassLoader(places, ClassLoader.getPlatformClassLoader())) {
            System.setOut(new PrintStream(caught, true));
            loader.loadClass("Counting").getMethod("main", String[].class).invoke(null, (Object) new String[0]);
        } finally {
            System.setOut(console);
        }
        return caught.toString();
    }

    private static void empty(Path room) throws IOException {
        try (var files = Files.list(room)) {
            for (Path file : (Iterable<Path>) files::iterator) {
                Files.delete(file);
            }
        }
        Files.delete(room);
    }

    private static void constants(String page) throws ReflectiveOperationException {
        Matcher row = Pattern.compile("\\| `(\\w+)` \\| (-?\\d+) \\|").matcher(page);
        int rows = 0;
        while (row.find()) {
            Due.is("README.md, " + row.group(1), RippleCounts.class.getField(row.group(1)).getInt(null),
                Long.parseLong(row.group(2)));
            rows++;
        }
        Due.is("README.md tells the errors and NONE", 6, rows);
    }
}
