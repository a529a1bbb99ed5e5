import java.io.File;
import java.io.IOException;
import java.lang.reflect.Method;
import java.net.URL;
import java.net.URLClassLoader;
import java.nio.file.Files;
import java.nio.file.Path;
import java.util.regex.Matcher;
import java.util.regex.Pattern;
import java.util.stream.Stream;
import javax.tools.JavaCompiler;
import javax.tools.ToolProvider;

/** The example of README.md, compiled and run: each call with an answer behind it has to give that. */
final class ReadmeTest {
    /** A call, then a number or a text in quotes; what follows it is for the reader. */
    private static final Pattern CALL = Pattern.compile("^ +(\\w[^;/]*\\));\\s+// (-?\\d+|\"[^\"]*\").*$", Pattern.MULTILINE);

    public static void main(String[] args) throws IOException, ReflectiveOperationException {
        JavaCompiler compiler = ToolProvider.getSystemJavaCompiler();
        if (compiler == null) {
            System.out.println("ReadmeTest: this machine has no compiler");
            return;
        }
        String program = exampleOf(Files.readString(Path.of(args.length > 0 ? args[0] : ".", "README.md")));
        Path room = Files.createTempDirectory("readme");
        try {
            Files.writeString(room.resolve("Example.java"), withAnswersLookedAt(program));
            int errors = compiler.run(null, null, null, "-cp", System.getProperty("java.class.path"), "-d", room.toString(),
                room.resolve("Example.java").toString());
            Due.is("errors of the example", errors, 0);
            runExample(room);
        } finally {
            clear(room);
        }
        Due.finish("ReadmeTest");
    }

    private static String exampleOf(String readme) {
        String begin = "```java\n";
        int from = readme.indexOf(begin) + begin.length();
        return readme.substring(from, readme.indexOf("```", from));
    }

    private static String withAnswersLookedAt(String program) {
        Matcher call = CALL.matcher(program);
        StringBuilder all = new StringBuilder();
        int calls = 0;
        while (call.find()) {
            String name = call.group(1).replace("\\", "\\\\").replace("\"", "\\\"");
            String look = "Due.is(\"" + name + "\", " + call.group(1) + ", " + call.group(2) + ");";
            call.appendReplacement(all, Matcher.quoteReplacement(look));
            calls++;
        }
        int answers = program.split("; +// ", -1).length - 1;
        Due.is("calls with an answer", calls, answers);
        Due.is("the example has some", calls > 20, true);
        return call.appendTail(all).toString();
    }

    /** Due is not public, so the example needs it from its own loader. */
    private static void runExample(Path room) throws IOException, ReflectiveOperationException {
        String[] places = System.getProperty("java.class.path").split(File.pathSeparator);
        URL[] urls = new URL[places.length + 1];
        urls[0] = room.toUri().toURL();
        for (int i = 0; i < places.length; i++) {
            urls[i + 1] = Path.of(places[i]).toUri().toURL();
        }
        try (URLClassLoader loader = new URLClassLoader(urls, null)) {
            Method main = loader.loadClass("Example").getMethod("main", String[].class);
            main.invoke(null, (Object) new String[0]);
            Method finish = loader.loadClass("Due").getDeclaredMethod("finish", String.class);
            finish.setAccessible(true);
            finish.invoke(null, "the example of README.md");
        }
    }

    private static void clear(Path room) throws IOException {
        try (Stream<Path> files = Files.list(room)) {
            for (Path file : (Iterable<Path>) files::iterator) {
                Files.delete(file);
            }
        }
        Files.delete(room);
    }
}
