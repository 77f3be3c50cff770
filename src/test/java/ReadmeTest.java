import java.io.ByteArrayOutputStream;
import java.io.IOException;
import java.io.PrintStream;
import java.lang.reflect.Method;
import java.lang.reflect.Modifier;
import java.net.URL;
import java.net.URLClassLoader;
import java.nio.charset.StandardCharsets;
import java.nio.file.Files;
import java.nio.file.Path;
import java.util.ArrayList;
import java.util.List;
import java.util.regex.Matcher;
import java.util.regex.Pattern;
import javax.tools.ToolProvider;

/** The examples of README.md are compiled and run: each prints what stands behind it. */
public final class ReadmeTest {
    private static final Check CHECK = new Check();
    private static final Pattern PRINTED = Pattern.compile("System\\.out\\.println\\((.*)\\); *// ([^:]*)(:.*)?");

    public static void main(String[] args) throws IOException, ReflectiveOperationException {
        String readme = Files.readString(Path.of("README.md"), StandardCharsets.UTF_8);
        callsAreNamed(readme);
        examplesAreDue(examplesOf(readme));
        CHECK.due("the README tells how to run the tests", true, () -> readme.contains("`bash .ci/run`"));
        CHECK.end("ReadmeTest");
    }

    private static void callsAreNamed(String readme) {
        for (Method method : Proofweigh.class.getDeclaredMethods()) {
            if (Modifier.isPublic(method.getModifiers())) {
                String name = method.getName();
                CHECK.due("the README names " + name, true, () -> readme.contains("`" + name + "`"));
            }
        }
    }

    private static String examplesOf(String readme) {
        StringBuilder examples = new StringBuilder();
        Matcher block = Pattern.compile("(?s)```java\n(.*?)```").matcher(readme);
        while (block.find()) {
            examples.append(block.group(1));
        }
        return examples.toString();
    }

    private static void examplesAreDue(String examples) throws IOException, ReflectiveOperationException {
        List<String> calls = new ArrayList<>();
        List<String> due = new ArrayList<>();
        for (String line : examples.split("\n")) {
            Matcher printed = PRINTED.matcher(line);
            CHECK.due(line + " tells what it prints", line.contains("println"), printed::matches);
            if (printed.matches()) {
                calls.add(printed.group(1));
                due.add(printed.group(2).strip());
            }
        }
        List<String> got = printedBy(examples);
        CHECK.due("so many lines are printed", due.size(), got::size);
        for (int line = 0; line < due.size() && line < got.size(); line++) {
            String answer = got.get(line);
            CHECK.due(calls.get(line) + " in the README", due.get(line), () -> answer);
        }
    }

    private static List<String> printedBy(String examples) throws IOException, ReflectiveOperationException {
        Path folder = Files.createTempDirectory("readme");
        Path source = folder.resolve("Examples.java");
        Files.writeString(source, "public class Examples {\npublic static void main(String[] args) {\n" + examples + "}\n}\n");
        ByteArrayOutputStream told = new ByteArrayOutputStream();
        int failed = ToolProvider.getSystemJavaCompiler().run(null, null, System.err, "-proc:none", "-cp",
                System.getProperty("java.class.path"), "-d", folder.toString(), source.toString());
        PrintStream before = System.out;
        try (URLClassLoader loader = new URLClassLoader(new URL[] {folder.toUri().toURL()});
                PrintStream caught = new PrintStream(told, true, StandardCharsets.UTF_8)) {
            if (failed == 0) {
                System.setOut(caught);
                loader.loadClass("Examples").getMethod("main", String[].class).invoke(null, (Object) new String[0]);
            }
        } finally {
            System.setOut(before);
            Files.deleteIfExists(folder.resolve("Examples.class"));
            Files.deleteIfExists(source);
            Files.deleteIfExists(folder);
        }
        return told.toString(StandardCharsets.UTF_8).lines().toList();
    }
}
