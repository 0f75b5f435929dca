import java.io.IOException;
import java.lang.reflect.Method;
import java.lang.reflect.Modifier;
import java.net.URL;
import java.net.URLClassLoader;
import java.nio.file.Files;
import java.nio.file.Path;
import java.util.Comparator;
import java.util.List;
import java.util.regex.Matcher;
import java.util.regex.Pattern;
import java.util.stream.Collectors;
import java.util.stream.Stream;
import javax.tools.ToolProvider;

/** README.md's examples are compiled and run: each line answers what it says; each call and test is named. */
public final class ReadmeTest {
    private static final Pattern BLOCK = Pattern.compile("(?s)```java\n(.*?)```");
    private static final Pattern ANSWER = Pattern.compile("(?m)^(?:int|long) (\\w+) = .*; *// (-?\\d+): .*$");

    public static void main(String[] args) throws Exception {
        String readme = Files.readString(Path.of("README.md"));
        StringBuilder body = new StringBuilder();
        Matcher blocks = BLOCK.matcher(readme);
        while (blocks.find()) body.append(blocks.group(1));
        Matcher answers = ANSWER.matcher(body);
        int told = (int) answers.results().count();
        int marked = body.toString().split("//", -1).length - 1;
        Due.due("lines that tell an answer", told, marked);
        Due.due("there are some", told > 9, true);
        run(ANSWER.matcher(body).replaceAll("$0\n        answered(\"$1\", $1, $2);"));
        calls(readme);
        tests(readme);
        Due.end("ReadmeTest");
    }

    private static void run(String body) throws Exception {
        Path folder = Files.createTempDirectory("readme");
        try {
            Path file = folder.resolve("Examples.java");
            Files.writeString(file, "public final class Examples extends ReadmeAnswers {\n    public static void run() {\n" + body + "    }\n}\n");
            Path answers = folder.resolve("ReadmeAnswers.java");
            Files.writeString(answers, "class ReadmeAnswers {\n    static final StringBuilder WRONG = new StringBuilder();\n"
                + "    static void answered(String name, long got, long want) {\n"
                + "        if (got != want) WRONG.append(name).append(\" answered \").append(got).append(\"; \");\n    }\n}\n");
            int failed = ToolProvider.getSystemJavaCompiler().run(null, System.out, System.out, "-cp",
                System.getProperty("java.class.path"), "-d", folder.toString(), file.toString(), answers.toString());
            Due.due("javac of the examples", failed, 0);
            if (failed == 0) Due.due("the examples: " + wrongOf(folder), wrongOf(folder).isEmpty(), true);
        } finally {
            remove(folder);
        }
    }

    private static String wrongOf(Path folder) throws Exception {
        try (URLClassLoader loader = new URLClassLoader(new URL[] {folder.toUri().toURL()}, ReadmeTest.class.getClassLoader())) {
            loader.loadClass("Examples").getMethod("run").invoke(null);
            var wrong = loader.loadClass("ReadmeAnswers").getDeclaredField("WRONG");
            wrong.setAccessible(true);
            return wrong.get(null).toString();
        }
    }

    private static void remove(Path folder) throws IOException {
        try (Stream<Path> all = Files.walk(folder)) {
            for (Path path : all.sorted(Comparator.reverseOrder()).collect(Collectors.toList())) Files.delete(path);
        }
    }

    private static void calls(String readme) {
        String table = readme.substring(readme.indexOf("| calls |"), readme.indexOf("No call throws."));
        for (Method m : HungerBooks.class.getDeclaredMethods()) {
            if (Modifier.isPublic(m.getModifiers())) Due.due("README.md names " + m.getName(), table.contains("`" + m.getName() + "`"), true);
        }
    }

    private static void tests(String readme) throws IOException {
        try (Stream<Path> all = Files.list(Path.of("src/test/java"))) {
            List<Path> files = all.collect(Collectors.toList());
            for (Path file : files) {
                String name = file.getFileName().toString().replace(".java", "");
                boolean isTest = Files.readString(file).contains("static void main(");
                Due.due("README.md names the test " + name, readme.contains("\n| " + name + " |"), isTest);
            }
        }
    }
}
