import java.io.ByteArrayOutputStream;
import java.io.File;
import java.io.IOException;
import java.io.PrintStream;
import java.lang.reflect.Method;
import java.lang.reflect.Modifier;
import java.net.URL;
import java.net.URLClassLoader;
import java.nio.file.Files;
import java.nio.file.Path;
import java.util.ArrayList;
import java.util.Comparator;
import java.util.List;
import java.util.regex.Matcher;
import java.util.regex.Pattern;
import java.util.stream.Stream;
import javax.tools.ToolProvider;

/** README.md: its program compiles and prints what stands behind its calls; each call and each test is named. */
public final class ReadmeTest {
    private static final Due due = new Due("ReadmeTest");
    private static final Pattern PROGRAM = Pattern.compile("```java\n(public class (\\w+) .*?)```", Pattern.DOTALL);
    private static final Pattern PRINTED = Pattern.compile("System\\.out\\.println\\((.*)\\); +// (-?\\d+)");

    public static void main(String[] args) throws Exception {
        String page = Files.readString(Path.of("README.md"));
        program(page);
        callsAreNamed(page);
        testsAreNamed(page);
        due.end();
    }

    private static void program(String page) throws Exception {
        Matcher program = PROGRAM.matcher(page);
        boolean found = program.find();
        due.is("README.md has a program", found ? 1 : 0, 1);
        if (!found) {
            return;
        }
        Path folder = Files.createTempDirectory("readme");
        try {
            prints(program.group(1), said(folder, program.group(2), program.group(1)));
        } finally {
            remove(folder);
        }
    }

    /** What the program prints, compiled into a folder. */
    private static String[] said(Path folder, String name, String text) throws Exception {
        Path source = Files.writeString(folder.resolve(name + ".java"), text);
        int failed = ToolProvider.getSystemJavaCompiler().run(null, null, null,
                "-cp", System.getProperty("java.class.path"), "-d", folder.toString(), source.toString());
        due.is("the program of README.md compiles", failed, 0);
        ByteArrayOutputStream said = new ByteArrayOutputStream();
        PrintStream before = System.out;
        try (URLClassLoader loader = new URLClassLoader(new URL[] {folder.toUri().toURL()})) {
            System.setOut(new PrintStream(said, true));
            loader.loadClass(name).getMethod("main", String[].class).invoke(null, (Object) new String[0]);
        } finally {
            System.setOut(before);
        }
        return said.toString().split("\\R");
    }

    private static void prints(String text, String[] said) {
        int line = 0;
        Matcher printed = PRINTED.matcher(text);
        while (printed.find()) {
            long got = line < said.length ? Long.parseLong(said[line]) : Long.MIN_VALUE;
            due.is("the program of README.md, " + printed.group(1), got, Long.parseLong(printed.group(2)));
            line++;
        }
        due.is("each line that is printed stands in README.md", said.length, line);
    }

    private static void callsAreNamed(String page) {
        for (Method m : ThirdLeft.class.getDeclaredMethods()) {
            if (Modifier.isPublic(m.getModifiers())) {
                boolean named = Pattern.compile("(?m)^\\|.*`" + m.getName() + "`.*\\|$").matcher(page).find();
                due.is("README.md names " + m.getName() + "()", named ? 1 : 0, 1);
            }
        }
    }

    private static void testsAreNamed(String page) {
        List<String> tests = new ArrayList<>();
        for (File file : new File("src/test/java").listFiles()) {
            if (file.getName().endsWith("Test.java")) {
                tests.add(file.getName().replace(".java", ""));
            }
        }
        for (String test : tests) {
            due.is("README.md names " + test, page.contains("\n| `" + test + "` |") ? 1 : 0, 1);
        }
        long rows = page.lines().filter(l -> l.matches("\\| `\\w+Test` \\|.*")).count();
        due.is("README.md names no other test", rows, tests.size());
    }

    private static void remove(Path folder) throws IOException {
        try (Stream<Path> all = Files.walk(folder)) {
            for (Path path : all.sorted(Comparator.reverseOrder()).toList()) {
                Files.delete(path);
            }
        }
    }
}
