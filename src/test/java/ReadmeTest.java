import java.io.IOException;
import java.lang.reflect.Method;
import java.lang.reflect.Modifier;
import java.net.URL;
import java.net.URLClassLoader;
import java.nio.file.Files;
import java.nio.file.Path;
import java.util.LinkedHashMap;
import java.util.Map;
import java.util.regex.Matcher;
import java.util.regex.Pattern;
import java.util.stream.Stream;
import javax.tools.ToolProvider;

/** README.md: its examples answer what stands behind them, and it tells of each method. Argument: the source. */
public final class ReadmeTest {
    private static final Pattern EXAMPLE = Pattern.compile("```java\n(.*?)```", Pattern.DOTALL);
    private static final Pattern ANSWER = Pattern.compile("(?m)^(keepers\\..*); +// (\\S+)$");

    private ReadmeTest() {
    }

    public static void main(String[] args) throws Exception {
        Path root = Path.of(args[0]).toAbsolutePath().getParent().getParent().getParent().getParent();
        String readme = Files.readString(root.resolve("README.md"));
        for (Method method : LockKeepers.class.getDeclaredMethods()) {
            if (Modifier.isPublic(method.getModifiers())) {
                String heading = "### `" + method.getReturnType() + " " + method.getName() + "(";
                Check.due("README.md tells of " + method.getName(), readme.contains(heading), true);
            }
        }
        examples(program(readme));
        Check.due("examples were run", Check.asked() > 30, true);
        Check.finish("ReadmeTest");
    }

    /** The methods among the examples, and the other ones in their order in one method more. */
    private static String program(String readme) {
        StringBuilder methods = new StringBuilder();
        StringBuilder body = new StringBuilder();
        Matcher example = EXAMPLE.matcher(readme);
        while (example.find()) {
            String code = example.group(1);
            (code.startsWith("static ") ? methods : body).append(code);
        }
        String asked = ANSWER.matcher(body).replaceAll("answers.put(answers.size() + \" $1\", new Object[] {$1, $2});");
        return "public final class Examples {\n" + methods
                + "public static void run(java.util.Map<String, Object[]> answers) {\n" + asked + "}\n}\n";
    }

    private static void examples(String program) throws Exception {
        Path room = Files.createTempDirectory("examples");
        try {
            Path source = Files.writeString(room.resolve("Examples.java"), program);
            int code = ToolProvider.getSystemJavaCompiler().run(null, null, null, "--release", "17", "-cp",
                    System.getProperty("java.class.path"), "-d", room.toString(), source.toString());
            Check.due("the examples can be compiled", code, 0);
            if (code == 0) {
                compare(room);
            }
        } finally {
            remove(room);
        }
    }

    private static void compare(Path room) throws Exception {
        Map<String, Object[]> answers = new LinkedHashMap<>();
        try (URLClassLoader loader = new URLClassLoader(new URL[] {room.toUri().toURL()})) {
            loader.loadClass("Examples").getMethod("run", Map.class).invoke(null, answers);
        }
        answers.forEach((call, both) -> Check.due(call + " answers " + both[0] + ", README.md says " + both[1],
                both[0].equals(both[1]), true));
    }

    private static void remove(Path room) throws IOException {
        try (Stream<Path> files = Files.list(room)) {
            for (Path file : files.toList()) {
                Files.delete(file);
            }
        }
        Files.delete(room);
    }
}
