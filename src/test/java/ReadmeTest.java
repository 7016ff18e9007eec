import java.io.File;
import java.io.IOException;
import java.lang.reflect.Method;
import java.lang.reflect.Modifier;
import java.net.URL;
import java.net.URLClassLoader;
import java.nio.file.Files;
import java.nio.file.Path;
import java.util.ArrayList;
import java.util.List;
import java.util.regex.Matcher;
import java.util.regex.Pattern;
import javax.tools.JavaCompiler;
import javax.tools.ToolProvider;

/** README.md's example answers what its comments say, and its table names every call. */
public final class ReadmeTest {
    private static final Pattern EXAMPLE = Pattern.compile("(?s)```java\n(.*?)```");
    private static final Pattern ANSWERED = Pattern.compile("(?:(?:int |long )?(\\w+) = )?(.*); +// (-?\\w+)\\b.*");

    public static void main(String[] args) throws Exception {
        Check check = new Check("ReadmeTest");
        String text = Files.readString(Path.of("README.md"));
        table(check, text);
        example(check, text);
        check.end();
    }

    private static void table(Check check, String text) {
        for (Method method : CableChart.class.getDeclaredMethods()) {
            if (Modifier.isPublic(method.getModifiers())) {
                Matcher row = Pattern.compile("(?m)^\\| `" + method.getName() + "\\(([\\w, ]*)\\)` \\|").matcher(text);
                int parameters = row.find() ? row.group(1).split(", ").length : -1;
                check.due("parameters in the row for " + method.getName(), parameters, method.getParameterCount());
            }
        }
    }

    private static void example(Check check, String text) throws Exception {
        Matcher example = EXAMPLE.matcher(text);
        check.due("an example", example.find(), true);
        List<String> asked = new ArrayList<>();
        List<String> due = new ArrayList<>();
        StringBuilder body = new StringBuilder();
        for (String line : example.group(1).split("\n")) {
            Matcher answered = ANSWERED.matcher(line);
            if (answered.matches()) {
                String name = answered.group(1);
                body.append(name == null ? "" : line + "\n");
                body.append("told.add(\"\" + ").append(name == null ? answered.group(2) : name).append(");\n");
                asked.add(answered.group(2));
                due.add(answered.group(3));
            } else {
                body.append(line).append('\n');
            }
        }
        List<?> told = run(body.toString());
        for (int i = 0; i < asked.size(); i++) {
            check.due(asked.get(i), told.get(i).toString(), due.get(i));
        }
        check.due("answers were told", asked.size() > 10, true);
    }

    private static List<?> run(String body) throws Exception {
        Path folder = Files.createTempDirectory("readme");
        try {
            compile(folder, "public final class ReadmeExample { public static java.util.List<String> told() {\n"
                    + "java.util.List<String> told = new java.util.ArrayList<>();\n" + body + "return told;\n}}\n");
            try (URLClassLoader loader = new URLClassLoader(new URL[] {folder.toUri().toURL()})) {
                return (List<?>) loader.loadClass("ReadmeExample").getMethod("told").invoke(null);
            }
        } finally {
            for (File file : folder.toFile().listFiles()) {
                file.delete();
            }
            Files.delete(folder);
        }
    }

    private static void compile(Path folder, String source) throws IOException {
        Path file = folder.resolve("ReadmeExample.java");
        Files.writeString(file, source);
        JavaCompiler compiler = ToolProvider.getSystemJavaCompiler();
        int code = compiler.run(null, null, null, "-cp", System.getProperty("java.class.path"), "-d",
                folder.toString(), file.toString());
        if (code != 0) {
            throw new IOException("README.md's example does not compile");
        }
    }
}
