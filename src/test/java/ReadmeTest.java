import java.io.ByteArrayOutputStream;
import java.io.IOException;
import java.io.PrintStream;
import java.lang.reflect.Method;
import java.lang.reflect.Modifier;
import java.net.URL;
import java.net.URLClassLoader;
import java.nio.file.Files;
import java.nio.file.Path;
import java.util.ArrayList;
import java.util.List;
import java.util.TreeSet;
import java.util.regex.Matcher;
import java.util.regex.Pattern;
import javax.tools.ToolProvider;

/** README.md: its program prints what stands behind //, its table has every call. */
public final class ReadmeTest {
    private static final Due DUE = new Due("ReadmeTest");

    private ReadmeTest() {
    }

    public static void main(String[] args) throws IOException, ReflectiveOperationException {
        String readme = Files.readString(Path.of("README.md"));
        example(readme);
        table(readme);
        DUE.end();
    }

    private static void example(String readme) throws IOException, ReflectiveOperationException {
        Matcher block = Pattern.compile("```java\n(.*?)```", Pattern.DOTALL).matcher(readme);
        DUE.is("there is a program", block.find(), true);
        String program = block.group(1);
        List<Long> due = new ArrayList<>();
        Matcher answer = Pattern.compile("print\\(.*\\);\\s+// (-?\\d+):").matcher(program);
        while (answer.find()) {
            due.add(Long.valueOf(answer.group(1)));
        }
        String[] printed = printedBy(program).split("\n");
        DUE.is("how many lines it prints", printed.length, due.size());
        for (int k = 0; k < due.size() && k < printed.length; k++) {
            DUE.is("line " + (k + 1), Long.parseLong(printed[k].strip()), due.get(k));
        }
    }

    private static String printedBy(String program) throws IOException, ReflectiveOperationException {
        Path out = Files.createTempDirectory("readme");
        Path source = Files.writeString(out.resolve("Example.java"), program);
        String path = System.getProperty("java.class.path");
        int failed = ToolProvider.getSystemJavaCompiler().run(null, null, null, "-proc:none",
            "-cp", path, "-d", out.toString(), source.toString());
        DUE.is("it compiles", failed, 0);
        PrintStream before = System.out;
        ByteArrayOutputStream printed = new ByteArrayOutputStream();
        try (URLClassLoader loader = new URLClassLoader(new URL[] {out.toUri().toURL()})) {
            System.setOut(new PrintStream(printed, true));
            loader.loadClass("Example").getMethod("main", String[].class).invoke(null, (Object) new String[0]);
        } finally {
            System.setOut(before);
            Files.deleteIfExists(out.resolve("Example.class"));
            Files.delete(source);
            Files.delete(out);
        }
        return printed.toString();
    }

    private static void table(String readme) {
        TreeSet<String> told = new TreeSet<>();
        Matcher row = Pattern.compile("(?m)^\\| (`.*?`) \\|").matcher(readme);
        while (row.find()) {
            told.addAll(List.of(row.group(1).replace("`", "").split(", ")));
        }
        for (Method method : ShortEnough.class.getDeclaredMethods()) {
            if (Modifier.isPublic(method.getModifiers())) {
                DUE.is(method.getName() + " stands in the table", told.remove(method.getName()), true);
            }
        }
        DUE.is("in the table alone: " + told, told.size(), 0);
    }
}
