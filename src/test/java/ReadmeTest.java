import java.io.ByteArrayOutputStream;
import java.io.IOException;
import java.io.PrintStream;
import java.lang.reflect.InvocationTargetException;
import java.lang.reflect.Method;
import java.lang.reflect.Modifier;
import java.net.URL;
import java.net.URLClassLoader;
import java.nio.file.Files;
import java.nio.file.Path;
import java.util.ArrayList;
import java.util.List;
import java.util.regex.Matcher;
import java.util.regex.Pattern;
import javax.tools.ToolProvider;

/** What README.md shows as code compiles against the class, and prints what stands behind its lines. */
public final class ReadmeTest {
    private static final Pattern BLOCK = Pattern.compile("(?ms)^```java\\n(.*?)^```$");
    private static final Pattern NAME = Pattern.compile("public class (\\w+)");
    /** Behind a println stands what it prints; what comes behind a colon tells why. */
    private static final Pattern PRINTED = Pattern.compile("System\\.out\\.println\\(.*\\); // ([^:]*)(: .*)?");

    public static void main(String[] args) throws IOException, ReflectiveOperationException {
        String readme = Files.readString(Path.of("README.md"));
        Check.sentence("README.md: what it shows as code");
        int programs = 0;
        Matcher block = BLOCK.matcher(readme);
        while (block.find()) {
            programs++;
            printsAsItSays(block.group(1));
        }
        Check.due("one program is shown", 1, programs);
        Check.due("no code is left out", programs * 2, readme.split("(?m)^```", -1).length - 1);
        Check.sentence("README.md: how to use the class");
        everyCallIsShown(readme);
        Check.finish();
    }

    private static void printsAsItSays(String program) throws IOException, ReflectiveOperationException {
        List<String> due = new ArrayList<>();
        for (String line : program.split("\n")) {
            Matcher printed = PRINTED.matcher(line.strip());
            if (printed.matches()) {
                due.add(printed.group(1));
            } else if (line.contains("println")) {
                Check.fail("nothing says what is printed by " + line.strip());
            }
        }
        List<String> got = run(program);
        Check.due("lines printed", due.size(), got.size());
        for (int k = 0; k < Math.min(due.size(), got.size()); k++) {
            Check.due("line " + k + " is " + got.get(k) + ", README.md says " + due.get(k) + ":", 1,
                    got.get(k).equals(due.get(k)) ? 1 : 0);
        }
    }

    private static List<String> run(String program) throws IOException, ReflectiveOperationException {
        Matcher name = NAME.matcher(program);
        if (!name.find()) {
            Check.fail("the program has no public class");
            return List.of();
        }
        Path out = Files.createTempDirectory("readme");
        Path source = out.resolve(name.group(1) + ".java");
        try {
            Files.writeString(source, program);
            int code = ToolProvider.getSystemJavaCompiler().run(null, null, null, "-Xlint:all", "-Werror", "-cp",
                    System.getProperty("java.class.path"), "-d", out.toString(), source.toString());
            Check.due("it compiles", 0, code);
            return code == 0 ? linesOf(out, name.group(1)) : List.of();
        } finally {
            Files.deleteIfExists(source);
            Files.deleteIfExists(out.resolve(name.group(1) + ".class"));
            Files.deleteIfExists(out);
        }
    }

    private static List<String> linesOf(Path classes, String name) throws IOException, ReflectiveOperationException {
        PrintStream screen = System.out;
        ByteArrayOutputStream printed = new ByteArrayOutputStream();
        Throwable thrown = null;
        try (URLClassLoader loader = new URLClassLoader(new URL[] {classes.toUri().toURL()})) {
            System.setOut(new PrintStream(printed, true));
            loader.loadClass(name).getMethod("main", String[].class).invoke(null, (Object) new String[0]);
        } catch (InvocationTargetException e) {
            thrown = e.getCause();
        } finally {
            System.setOut(screen);
        }
        if (thrown != null) {
            Check.fail("it threw " + thrown);
        }
        return printed.toString().lines().toList();
    }

    private static void everyCallIsShown(String readme) {
        for (Method m : RecordTimes.class.getDeclaredMethods()) {
            if (Modifier.isPublic(m.getModifiers())) {
                Check.due(m.getName() + " is in the program", 1, readme.contains(" x." + m.getName() + "(")
                        || readme.contains("(x." + m.getName() + "(") ? 1 : 0);
                Check.due(m.getName() + " is in the table", 1, timesIn(readme, "`" + m.getName() + "\\([^`]*\\)`[^\\n]* \\|"));
            }
        }
    }

    private static int timesIn(String text, String words) {
        int times = 0;
        Matcher m = Pattern.compile(words).matcher(text);
        while (m.find()) {
            times++;
        }
        return times;
    }
}
