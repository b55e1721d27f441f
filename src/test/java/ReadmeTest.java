import java.io.ByteArrayOutputStream;
import java.io.IOException;
import java.io.PrintStream;
import java.lang.reflect.Method;
import java.lang.reflect.Modifier;
import java.net.URL;
import java.net.URLClassLoader;
import java.nio.file.Files;
import java.nio.file.Path;
import java.util.regex.Matcher;
import java.util.regex.Pattern;
import java.util.stream.Stream;

/** README.md: its example does what stands there, and it leaves nothing out. */
public final class ReadmeTest {
    private static final Path EXAMPLE = Path.of("build", "example", "Example.java");
    private static final String[] NAMES = {"SET", "ADD", "SUB", "MUL", "LOAD", "STORE", "SWAP",
        "JUMP", "JZ", "JN", "SYNC", "HALT"};
    private static final Check CHECK = new Check("ReadmeTest");

    public static void main(String[] args) throws Exception {
        String page = Files.readString(Path.of("README.md"));
        exampleAnswersAsItSays(page);
        instructionsAreAllThere(page);
        callsAndConstantsAreAllThere(page);
        testsAreAllThere(page);
        CHECK.finish();
    }

    private static void exampleAnswersAsItSays(String page) throws Exception {
        Files.createDirectories(EXAMPLE.getParent());
        Files.writeString(EXAMPLE, blockOf(page, "java"));
        int result = new ProcessBuilder("javac", "-classpath",
                System.getProperty("java.class.path"), EXAMPLE.toString())
                .inheritIO().start().waitFor();
        CHECK.due("javac of the example", result, 0);
        if (result == 0) {
            CHECK.dueText("what the example prints", printed(), blockOf(page, "text"));
        }
    }

    private static String blockOf(String page, String kind) {
        Matcher block = Pattern.compile("(?s)```" + kind + "\n(.*?)```").matcher(page);
        return block.find() ? block.group(1) : "no block of this kind: " + kind;
    }

    private static String printed() throws Exception {
        URL[] places = {EXAMPLE.getParent().toUri().toURL()};
        ByteArrayOutputStream bytes = new ByteArrayOutputStream();
        PrintStream before = System.out;
        try (URLClassLoader loader = new URLClassLoader(places)) {
            System.setOut(new PrintStream(bytes, true));
            Method main = loader.loadClass("Example").getMethod("main", String[].class);
            main.invoke(null, (Object) new String[0]);
        } finally {
            System.setOut(before);
        }
        return bytes.toString().replace(System.lineSeparator(), "\n");
    }

    /** Each row of the table of the text is assembled and must be the instruction that it names. */
    private static void instructionsAreAllThere(String page) {
        Matcher row = Pattern.compile("\n\\| `([^`]+)` \\| ([A-Z]+) \\|").matcher(page);
        int rows = 0;
        while (row.find() && rows < NAMES.length) {
            BarrelProcessor x = Check.with(row.group(1));
            CHECK.due("fault of " + row.group(1), x.fault(), BarrelProcessor.NONE);
            CHECK.due("operation of " + row.group(1), x.operation(0), rows);
            CHECK.dueText("its name", row.group(2), NAMES[rows]);
            rows++;
        }
        CHECK.due("instructions", rows, NAMES.length);
    }

    private static void callsAndConstantsAreAllThere(String page) {
        for (Method method : BarrelProcessor.class.getDeclaredMethods()) {
            if (Modifier.isPublic(method.getModifiers())) {
                Matcher call = Pattern.compile("`" + method.getName() + "\\(([^)]*)\\)`")
                        .matcher(page);
                CHECK.due("the page tells of " + method.getName(), call.find() ? 1 : 0, 1);
                String arguments = call.reset().find() ? call.group(1) : "";
                int count = arguments.isEmpty() ? 0 : arguments.split(", ").length;
                CHECK.due("arguments of " + method.getName(), count, method.getParameterCount());
            }
        }
        for (String name : new String[] {"NO_SUCH", "BAD_VALUE", "BAD_TEXT", "TOO_MANY", "NONE",
            "LATENCY", "LEND"}) {
            CHECK.due("the page tells of " + name, page.contains("`" + name + "`") ? 1 : 0, 1);
        }
    }

    private static void testsAreAllThere(String page) throws IOException {
        Path tests = Path.of("src", "test", "java");
        try (Stream<Path> files = Files.list(tests)) {
            for (Path file : files.sorted().toList()) {
                String name = file.getFileName().toString().replace(".java", "");
                CHECK.due("the page tells of " + name, page.contains("`" + name + "`") ? 1 : 0, 1);
            }
        }
        Matcher row = Pattern.compile("\n\\| `(\\w+Test)` \\|").matcher(page);
        while (row.find()) {
            boolean isThere = Files.exists(tests.resolve(row.group(1) + ".java"));
            CHECK.due("there is " + row.group(1), isThere ? 1 : 0, 1);
        }
    }
}
