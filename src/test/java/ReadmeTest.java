import java.io.ByteArrayOutputStream;
import java.io.IOException;
import java.io.PrintStream;
import java.io.StringWriter;
import java.net.URI;
import java.net.URL;
import java.net.URLClassLoader;
import java.nio.file.Files;
import java.nio.file.Path;
import java.util.Comparator;
import java.util.List;
import java.util.regex.Matcher;
import java.util.regex.Pattern;
import java.util.stream.Stream;
import javax.tools.JavaCompiler;
import javax.tools.JavaFileObject;
import javax.tools.SimpleJavaFileObject;
import javax.tools.ToolProvider;

/** What README.md says of the class is what the class does; run from the project's folder. */
public final class ReadmeTest {
    private static final Check CHECK = new Check();
    private static final int EXAMPLES = 3;
    /** A program, and what it prints right below it. */
    private static final Pattern EXAMPLE = Pattern.compile("(?s)```java\n(.*?)```\\s*```text\n(.*?)```");
    private static final Pattern FILE = Pattern.compile("`(\\w+Test|[A-Z]\\w+)\\.java`");

    public static void main(String[] args) throws Exception {
        String text = Files.readString(Path.of("README.md"));
        examples(text);
        files(text);
        CHECK.end();
    }

    private static void examples(String text) throws Exception {
        int count = 0;
        for (Matcher matcher = EXAMPLE.matcher(text); matcher.find();) {
            count++;
            CHECK.same(matcher.group(2), "example " + count, printed("Example" + count, matcher.group(1)));
        }
        CHECK.same(EXAMPLES, "examples with what they print", count);
        CHECK.same(EXAMPLES, "programs", text.split("```java\n", -1).length - 1);
    }

    private static void files(String text) throws IOException {
        for (Matcher matcher = FILE.matcher(text); matcher.find();) {
            String name = matcher.group(1).replace("NN", "01") + ".java";
            CHECK.same(true, name + " is there", Files.exists(Path.of("src/test/java", name)));
        }
        try (Stream<Path> own = Files.list(Path.of("src/test/java"))) {
            for (Path file : own.toList()) {
                String name = file.getFileName().toString().replaceAll("^Promise\\d\\d", "PromiseNN");
                CHECK.same(true, name + " is spoken of", text.contains("`" + name + "`"));
            }
        }
    }

    private static String printed(String name, String statements) throws Exception {
        Path folder = Files.createTempDirectory("readme");
        PrintStream out = System.out;
        try (URLClassLoader loader = new URLClassLoader(new URL[] {folder.toUri().toURL()})) {
            String complaints = compile(folder, name, statements);
            if (!complaints.isEmpty()) {
                return complaints;
            }
            ByteArrayOutputStream bytes = new ByteArrayOutputStream();
            System.setOut(new PrintStream(bytes, true));
            loader.loadClass(name).getMethod("main", String[].class).invoke(null, (Object) new String[0]);
            return bytes.toString().replace(System.lineSeparator(), "\n");
        } finally {
            System.setOut(out);
            remove(folder);
        }
    }

    private static String compile(Path folder, String name, String statements) {
        String code = "public final class " + name + " { public static void main(String[] args) {\n" + statements + "} }";
        JavaFileObject source = new SimpleJavaFileObject(URI.create("string:///" + name + ".java"), JavaFileObject.Kind.SOURCE) {
            @Override
            public CharSequence getCharContent(boolean ignoreEncodingErrors) {
                return code;
            }
        };
        JavaCompiler compiler = ToolProvider.getSystemJavaCompiler();
        StringWriter complaints = new StringWriter();
        List<String> options = List.of("-d", folder.toString(), "-cp", System.getProperty("java.class.path"));
        compiler.getTask(complaints, null, null, options, null, List.of(source)).call();
        return complaints.toString();
    }

    private static void remove(Path folder) throws IOException {
        try (Stream<Path> all = Files.walk(folder)) {
            for (Path one : all.sorted(Comparator.reverseOrder()).toList()) {
                Files.delete(one);
            }
        }
    }
}
