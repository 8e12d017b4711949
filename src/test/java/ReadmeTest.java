import java.io.IOException;
import java.lang.reflect.Constructor;
import java.lang.reflect.Method;
import java.lang.reflect.Modifier;
import java.net.URL;
import java.net.URLClassLoader;
import java.nio.file.Files;
import java.nio.file.Path;
import java.util.ArrayList;
import java.util.List;
import java.util.function.Supplier;
import java.util.regex.Matcher;
import java.util.regex.Pattern;
import java.util.stream.Stream;

/** README.md is true: its example compiles, and answers what it says there; it names each call and each test. */
public final class ReadmeTest extends Checks {
    /** A line that begins with a name and ends with a number, which is the answer that is told of it. */
    private static final Pattern TOLD = Pattern.compile("int (\\w+) = x\\..*; +// (-?\\d+)(:.*)?");

    public static void main(String[] args) throws Exception {
        about = "README.md";
        String page = Files.readString(Path.of("README.md"));
        tryExample(page);
        for (Method method : AbroadRouter.class.getDeclaredMethods()) {
            if (Modifier.isPublic(method.getModifiers())) mustName(page, method.getName());
        }
        try (Stream<Path> files = Files.list(Path.of("src/test/java"))) {
            files.map(f -> f.getFileName().toString()).filter(f -> f.endsWith("Test.java"))
                    .forEach(f -> mustName(page, f.replace(".java", "")));
        }
        System.out.println(checks + " checks of README.md, " + wrongs + " not as due");
        if (wrongs != 0) System.exit(1);
    }

    private static void mustName(String page, String name) {
        checks++;
        if (!page.contains("`" + name + "`")) say("does not name " + name);
    }

    /** The first part of the page that is written as Java. */
    private static String[] example(String page) {
        int from = page.indexOf("```java") + 7;
        return page.substring(from, page.indexOf("```", from)).strip().split("\n");
    }

    private static void tryExample(String page) throws Exception {
        List<String> names = new ArrayList<>();
        List<Long> wants = new ArrayList<>();
        StringBuilder body = new StringBuilder();
        for (String line : example(page)) {
            body.append(line).append('\n');
            Matcher told = TOLD.matcher(line);
            if (told.matches()) {
                names.add(told.group(1));
                wants.add(Long.parseLong(told.group(2)));
            }
        }
        long[] answers = run(body + "return new long[] {" + String.join(", ", names) + "};\n");
        due(() -> answers.length > 0 ? 1 : 0, 1);
        for (int i = 0; i < answers.length; i++) {
            long answer = answers[i];
            about = "README.md, " + names.get(i);
            due(() -> answer, wants.get(i));
        }
        about = "README.md";
    }

    @SuppressWarnings("unchecked")
    private static long[] run(String body) throws Exception {
        Path dir = Files.createTempDirectory("readme");
        try {
            Path file = dir.resolve("Example.java");
            Files.writeString(file, "public class Example implements java.util.function.Supplier<long[]> {\n"
                    + "public long[] get() {\n" + body + "}\n}\n");
            // The javac of .ci/run, since the java that runs this may come without one.
            int failed = new ProcessBuilder("javac", "-cp", System.getProperty("java.class.path"),
                    "-d", dir.toString(), file.toString()).inheritIO().start().waitFor();
            if (failed != 0) {
                say("its example does not compile");
                return new long[0];
            }
            try (URLClassLoader loader = new URLClassLoader(new URL[] {dir.toUri().toURL()})) {
                Constructor<?> maker = loader.loadClass("Example").getConstructor();
                return ((Supplier<long[]>) maker.newInstance()).get();
            }
        } finally {
            remove(dir);
        }
    }

    private static void remove(Path dir) throws IOException {
        try (Stream<Path> files = Files.list(dir)) {
            for (Path file : files.toList()) Files.delete(file);
        }
        Files.delete(dir);
    }
}
