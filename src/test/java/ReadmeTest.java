import java.net.URL;
import java.net.URLClassLoader;
import java.nio.file.Files;
import java.nio.file.Path;
import java.util.ArrayList;
import java.util.List;
import java.util.regex.Matcher;
import java.util.regex.Pattern;
import javax.tools.ToolProvider;

/** What README.md shows is compiled and run: each call behind which an answer is told must answer so. */
public final class ReadmeTest {
    private static final Pattern BLOCK = Pattern.compile("(?s)```java\n(.*?)```");
    private static final Pattern TOLD = Pattern.compile("(?m)^(x\\.[^;]*);\\s*// (-?\\d+):.*$");

    public static void main(String[] args) throws Exception {
        String shown = shown();
        List<Long> got = run(TOLD.matcher(shown).replaceAll("got.add((long) $1);"));
        Matcher told = TOLD.matcher(shown);
        for (int i = 0; told.find() && i < got.size(); i++) {
            Check.due("README.md, line " + (i + 1) + ": " + told.group(1), got.get(i), Long.parseLong(told.group(2)));
        }
        Check.finish("ReadmeTest");
    }

    private static String shown() throws Exception {
        StringBuilder all = new StringBuilder();
        Matcher block = BLOCK.matcher(Files.readString(Path.of("README.md")));
        while (block.find()) {
            all.append(block.group(1));
        }
        return all.toString();
    }

    /** The answers of the calls that put them into 'got'; none, if the lines do not compile. */
    private static List<Long> run(String lines) throws Exception {
        Path out = Files.createTempDirectory("readme");
        Path source = out.resolve("Shown.java");
        Files.writeString(source, "public final class Shown {\n"
                + "    public static void main(java.util.List<Long> got) {\n" + lines + "    }\n}\n");
        List<Long> got = new ArrayList<>();
        int failed = ToolProvider.getSystemJavaCompiler().run(null, null, null,
                "-cp", System.getProperty("java.class.path"), "-d", out.toString(), source.toString());
        Check.due("README.md's lines compile", failed, 0);
        if (failed == 0) {
            try (URLClassLoader loader = new URLClassLoader(new URL[] {out.toUri().toURL()})) {
                loader.loadClass("Shown").getMethod("main", List.class).invoke(null, got);
            }
        }
        for (String left : new String[] {"Shown.class", "Shown.java", ""}) {
            Files.deleteIfExists(out.resolve(left));
        }
        return got;
    }
}
