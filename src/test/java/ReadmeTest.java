import java.io.ByteArrayOutputStream;
import java.io.File;
import java.io.PrintStream;
import java.net.URL;
import java.net.URLClassLoader;
import java.nio.charset.StandardCharsets;
import java.nio.file.Files;
import java.nio.file.Path;
import java.nio.file.Paths;
import java.util.ArrayList;
import java.util.List;
import java.util.regex.Matcher;
import java.util.regex.Pattern;
import javax.tools.ToolProvider;

/**
 * The example of README.md, as it stands there: it compiles and runs, and each call answers what stands behind it,
 * asked of the class and of Plain. Run it from the project's folder.
 */
public final class ReadmeTest {
    private static final Pattern BLOCK = Pattern.compile("```java\n(.*?)```", Pattern.DOTALL);
    /** A call in main, and what is due behind it. */
    private static final Pattern CALL = Pattern.compile(
            "        (street\\.\\w+\\(.*\\)|tell\\(.*\\)); *// (-?\\d+|true|false|nothing|throws \\w+): \\S.*");
    private static final Pattern ANY_CALL = Pattern.compile("        (street\\.|tell\\().*");

    private ReadmeTest() {
    }

    public static void main(String[] args) throws Exception {
        String readme = new String(Files.readAllBytes(Paths.get("README.md")), StandardCharsets.UTF_8);
        Matcher block = BLOCK.matcher(readme);
        Check.same("README.md has an example", true, block.find());
        String example = block.group(1);
        Check.same("README.md has one example", false, block.find());
        Path folder = Files.createTempDirectory("readme");
        try {
            Check.same("what the example prints", "56", printed(folder, example));
            run(folder, "OfClass", asked(example, "OfClass"));
            run(folder, "OfPlain", asked(example, "OfPlain").replace("CoalStreet", "Plain"));
        } finally {
            clear(folder);
        }
        Check.end();
    }

    /** The example with each call looked at. */
    private static String asked(String example, String name) {
        StringBuilder text = new StringBuilder();
        int calls = 0;
        for (String line : example.split("\n")) {
            Matcher call = CALL.matcher(line);
            if (call.matches()) {
                calls++;
                line = asked(call.group(1), call.group(2), name);
            } else {
                Check.same("nothing is due behind " + line, false, ANY_CALL.matcher(line).matches());
            }
            text.append(line).append('\n');
        }
        Check.same("calls with answers", true, calls > 40);
        int end = text.lastIndexOf("    }\n}");
        return text.substring(0, end).replace("class Example", "class " + name) + "        Check.end();\n    }\n}\n";
    }

    private static String asked(String call, String want, String name) {
        String due = want.startsWith("n") || want.startsWith("th") ? "\"" + want + "\"" : want;
        String lambda = want.equals("nothing") ? "{ " + call + "; return null; }" : call;
        return "        Check.due(\"" + name + ": " + call.replace("\"", "'") + "\", " + due + ", () -> " + lambda + ");";
    }

    private static String printed(Path folder, String example) throws Exception {
        PrintStream out = System.out;
        ByteArrayOutputStream printed = new ByteArrayOutputStream();
        System.setOut(new PrintStream(printed, true));
        try {
            run(folder, "Example", example);
        } finally {
            System.setOut(out);
        }
        return printed.toString().trim();
    }

    private static void run(Path folder, String name, String source) throws Exception {
        Path file = folder.resolve(name + ".java");
        Files.write(file, source.getBytes(StandardCharsets.UTF_8));
        String path = System.getProperty("java.class.path");
        int failed = ToolProvider.getSystemJavaCompiler().run(null, null, null, "-cp", path, "-d", folder.toString(),
                file.toString());
        if (failed != 0) {
            throw new IllegalStateException(name + " doesn't compile");
        }
        List<URL> urls = new ArrayList<>();
        urls.add(folder.toUri().toURL());
        for (String part : path.split(File.pathSeparator)) {
            urls.add(Paths.get(part).toUri().toURL());
        }
        // All classes come from one loader, as they are in one package.
        try (URLClassLoader loader = new URLClassLoader(urls.toArray(new URL[0]), ClassLoader.getPlatformClassLoader())) {
            loader.loadClass(name).getMethod("main", String[].class).invoke(null, (Object) new String[0]);
        }
    }

    private static void clear(Path folder) throws Exception {
        File[] files = folder.toFile().listFiles();
        for (int i = 0; files != null && i < files.length; i++) {
            Files.delete(files[i].toPath());
        }
        Files.delete(folder);
    }
}
