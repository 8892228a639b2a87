import java.net.URL;
import java.net.URLClassLoader;
import java.nio.file.Files;
import java.nio.file.Path;
import java.util.regex.Matcher;
import java.util.regex.Pattern;
import javax.tools.JavaCompiler;
import javax.tools.ToolProvider;

/** The examples of README.md, compiled and run: each answer that a comment there tells is due. */
public final class ReadmeTest {
    private static final Pattern EXAMPLE = Pattern.compile("(?s)```java\n(.*?)```");
    private static final Pattern TOLD =
            Pattern.compile("(?m)^int (\\w+) = ([^;]+|.*';'.*); *// (-?\\d+): .*$");

    public static void main(String[] args) throws Exception {
        Matcher example = EXAMPLE.matcher(Files.readString(Path.of("README.md")));
        int told = 0;
        StringBuilder code = new StringBuilder("public final class Examples {\n"
                + "static void is(String call, int got, int due) throws Exception {\n"
                + "ReadmeTest.told(call, got, due); }\n"
                + "public static void main(String[] args) throws Exception {\n");
        while (example.find()) {
            told += (int) TOLD.matcher(example.group(1)).results().count();
            code.append("{\n").append(TOLD.matcher(example.group(1)).replaceAll(
                    match -> Matcher.quoteReplacement(checked(match.group(1), match.group(2),
                            match.group(3))))).append("}\n");
        }
        run(code.append("}\n}\n").toString());
        Due.is("answers that README.md tells", told >= 20 ? 1 : 0, 1);
        Due.end();
    }

    private static String checked(String name, String call, String due) {
        return "int " + name + " = " + call + ";\nis(\"" + name + "\", " + name + ", " + due + ");";
    }

    /** Called by the compiled examples. */
    public static void told(String call, int got, int due) {
        Due.is("README.md: " + call, got, due);
    }

    private static void run(String code) throws Exception {
        Path folder = Files.createTempDirectory("readme");
        Path file = folder.resolve("Examples.java");
        Files.writeString(file, code);
        JavaCompiler compiler = ToolProvider.getSystemJavaCompiler();
        int outcome = compiler.run(null, null, null, "-d", folder.toString(), "-cp",
                System.getProperty("java.class.path"), file.toString());
        Due.is("the examples compile", outcome, 0);
        try (URLClassLoader loader = new URLClassLoader(new URL[] {folder.toUri().toURL()})) {
            loader.loadClass("Examples").getMethod("main", String[].class)
                    .invoke(null, (Object) new String[0]);
        }
        Files.delete(file);
        Files.delete(folder.resolve("Examples.class"));
        Files.delete(folder);
    }
}
