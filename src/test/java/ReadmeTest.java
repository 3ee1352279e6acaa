import java.io.IOException;
import java.lang.reflect.Method;
import java.lang.reflect.Modifier;
import java.net.URL;
import java.net.URLClassLoader;
import java.nio.file.Files;
import java.nio.file.Path;
import java.util.ArrayList;
import java.util.List;
import java.util.regex.Matcher;
import java.util.regex.Pattern;
import java.util.stream.Stream;
import javax.tools.ToolProvider;

/** README.md keeps to the class: its examples answer as it says, and no call or test is left out. */
public final class ReadmeTest {
    private static final Due due = new Due();
    private static final Pattern EXAMPLE = Pattern.compile("(?s)```java\n(.*?)```");
    private static final Pattern ANSWERED = Pattern.compile("(int \\w+ = )?(.*); *// (-?\\d+): .*");
    private static final int EXAMPLES = 3;

    public static void main(String[] args) throws IOException, ReflectiveOperationException {
        String page = Files.readString(Path.of("README.md"));
        examples(page);
        calls(page);
        tests(page);
        due.end();
    }

    private static void examples(String page) throws IOException, ReflectiveOperationException {
        Matcher m = EXAMPLE.matcher(page);
        int found = 0;
        while (m.find()) {
            found++;
            example("ReadmeExample" + found, m.group(1));
        }
        due.is("examples", found, EXAMPLES);
    }

    /** A line with a number behind it gives that answer; the others are taken as they stand. */
    private static void example(String name, String code) throws IOException, ReflectiveOperationException {
        StringBuilder body = new StringBuilder();
        List<String> lines = new ArrayList<>();
        List<Long> wants = new ArrayList<>();
        for (String line : code.split("\n")) {
            Matcher m = ANSWERED.matcher(line);
            if (m.matches()) {
                String variable = m.group(1) == null ? "" : m.group(1).replace("int ", "");
                body.append(m.group(1) == null ? "" : "int " + variable.replace(" = ", ";"));
                body.append("all[").append(wants.size()).append("] = ").append(variable).append(m.group(2)).append(";\n");
                lines.add(line);
                wants.add(Long.parseLong(m.group(3)));
            } else {
                body.append(line).append('\n');
            }
        }
        long[] got = run(name, body, wants.size());
        due.yes(name + " has answers", !wants.isEmpty());
        for (int i = 0; i < wants.size(); i++) {
            due.is("README: " + lines.get(i), got[i], wants.get(i));
        }
    }

    private static long[] run(String name, CharSequence body, int answers) throws IOException, ReflectiveOperationException {
        Path folder = Files.createTempDirectory("readme");
        Path source = folder.resolve(name + ".java");
        Files.writeString(source, "public final class " + name + " { public static long[] all() {\nlong[] all = new long["
            + answers + "];\n" + body + "return all; } }\n");
        String path = System.getProperty("java.class.path");
        int code = ToolProvider.getSystemJavaCompiler().run(null, null, null,
            "-cp", path, "-d", folder.toString(), source.toString());
        due.is("README: " + name + " compiles", code, 0);
        try (URLClassLoader loader = new URLClassLoader(new URL[] {folder.toUri().toURL()})) {
            return code != 0 ? new long[answers] : (long[]) loader.loadClass(name).getMethod("all").invoke(null);
        } finally {
            Files.deleteIfExists(source);
            Files.deleteIfExists(folder.resolve(name + ".class"));
            Files.deleteIfExists(folder);
        }
    }

    /** Each with as many numbers as it takes. */
    private static void calls(String page) {
        for (Method m : BadgeDoors.class.getDeclaredMethods()) {
            if (Modifier.isPublic(m.getModifiers())) {
                int many = m.getParameterCount();
                String numbers = many == 0 ? "" : "\\w+(, \\w+){" + (many - 1) + "}";
                Pattern told = Pattern.compile("(?m)^\\|.*`" + m.getName() + "\\(" + numbers + "\\)`.*\\|.+\\|$");
                due.yes("README tells " + m.getName(), told.matcher(page).find());
            }
        }
    }

    private static void tests(String page) throws IOException {
        try (Stream<Path> all = Files.list(Path.of("src/test/java"))) {
            for (Path file : all.toList()) {
                String name = file.getFileName().toString().replace(".java", "");
                due.yes("README tells " + name, !name.endsWith("Test") || page.contains("| `" + name + "` |"));
            }
        }
        due.yes("README tells how to run the tests", page.contains("\n    .ci/run\n"));
    }
}
