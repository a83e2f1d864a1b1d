import java.io.ByteArrayOutputStream;
import java.io.File;
import java.io.IOException;
import java.io.PrintStream;
import java.lang.reflect.Method;
import java.lang.reflect.Modifier;
import java.net.URL;
import java.net.URLClassLoader;
import java.nio.file.Files;
import java.nio.file.Path;
import java.util.Set;
import java.util.TreeSet;
import java.util.regex.Matcher;
import java.util.regex.Pattern;
import javax.tools.ToolProvider;

/** What README.md says holds: its program, and the calls, classes and tests that it names. */
public final class ReadmeTest {
    private static final Pattern PROGRAM = Pattern.compile("```java\n(.*?)```", Pattern.DOTALL);
    private static final Pattern ANSWER = Pattern.compile("println\\(.*\\);  // (-?\\d+)\\b");
    private static final Pattern CALL = Pattern.compile("`(\\w+)\\([^`]*\\)`");
    private static final Pattern NAME = Pattern.compile("`(\\w+)`");

    private final Checks checks = new Checks();
    private final String text;

    private ReadmeTest(String text) {
        this.text = text;
    }

    public static void main(String[] args) throws IOException, ReflectiveOperationException {
        ReadmeTest test = new ReadmeTest(Files.readString(Path.of("README.md")));
        test.program();
        test.calls();
        test.classes();
        test.tests();
        test.checks.finish();
    }

    private void program() throws IOException, ReflectiveOperationException {
        Matcher program = PROGRAM.matcher(text);
        checks.due("that there is a program", program.find() ? 1 : 0, 1);
        StringBuilder said = new StringBuilder();
        Matcher answers = ANSWER.matcher(program.group(1));
        while (answers.find()) {
            said.append(answers.group(1)).append('\n');
        }
        String printed = printedBy(program.group(1)).replace(System.lineSeparator(), "\n");
        due("what the program prints", printed, said.toString());
    }

    private static String printedBy(String program) throws IOException, ReflectiveOperationException {
        Path folder = Files.createTempDirectory("readme");
        Path source = folder.resolve("Demo.java");
        Files.writeString(source, program);
        int failed = ToolProvider.getSystemJavaCompiler().run(null, null, null,
            "-cp", System.getProperty("java.class.path"), "-d", folder.toString(), source.toString());
        ByteArrayOutputStream printed = new ByteArrayOutputStream();
        PrintStream before = System.out;
        try (URLClassLoader loader = new URLClassLoader(new URL[] {folder.toUri().toURL()})) {
            System.setOut(new PrintStream(printed, true));
            if (failed == 0) {
                loader.loadClass("Demo").getMethod("main", String[].class).invoke(null, (Object) new String[0]);
            }
        } finally {
            System.setOut(before);
            for (File file : folder.toFile().listFiles()) {
                Files.delete(file.toPath());
            }
            Files.delete(folder);
        }
        return printed.toString();
    }

    private void calls() {
        Set<String> face = new TreeSet<>();
        face.add("HyperHost");
        for (Method method : HyperHost.class.getDeclaredMethods()) {
            if (Modifier.isPublic(method.getModifiers())) {
                face.add(method.getName());
            }
        }
        due("the calls", named(CALL, between("The calls:", "`HyperHost.BAD`").replace("`new ", "`")), face);
    }

    private void classes() {
        Set<String> made = new TreeSet<>();
        made.add("HyperHost");
        for (Class<?> inside : HyperHost.class.getDeclaredClasses()) {
            made.add(inside.getSimpleName());
        }
        String table = between("| class |", "A step makes").replaceAll("(?m)^(\\|[^|]*\\|).*$", "$1");
        due("the classes", named(NAME, table), made);
    }

    private void tests() {
        Set<String> files = new TreeSet<>();
        for (String file : new File("src/test/java").list()) {
            if (file.endsWith("Test.java")) {
                files.add(file.substring(0, file.length() - ".java".length()));
            }
        }
        String table = between("| test |", "One of them").replaceAll("(?m)^(\\|[^|]*\\|).*$", "$1");
        due("the tests", named(NAME, table), files);
    }

    private String between(String first, String last) {
        int from = text.indexOf(first);
        int to = text.indexOf(last);
        checks.due("that there is a part from " + first + " to " + last, from >= 0 && from < to ? 1 : 0, 1);
        return from >= 0 && from < to ? text.substring(from, to) : "";
    }

    private static Set<String> named(Pattern pattern, String part) {
        Set<String> names = new TreeSet<>();
        Matcher matcher = pattern.matcher(part);
        while (matcher.find()) {
            names.add(matcher.group(1));
        }
        return names;
    }

    private void due(String what, Object got, Object want) {
        checks.due(what + ", told as " + got + " and due as " + want, got.equals(want) ? 1 : 0, 1);
    }
}
