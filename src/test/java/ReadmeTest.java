import java.io.IOException;
import java.io.UncheckedIOException;
import java.lang.reflect.InvocationTargetException;
import java.lang.reflect.Method;
import java.nio.file.Files;
import java.nio.file.Path;
import java.util.ArrayList;
import java.util.Arrays;
import java.util.List;
import java.util.Set;
import java.util.TreeSet;
import java.util.regex.Matcher;
import java.util.regex.Pattern;
import java.util.stream.Stream;

/** What README.md tells holds: its lines of code have the answers behind them, and no call or test is left out. */
final class ReadmeTest {
    private static final Pattern CODE = Pattern.compile("```java\n(.*?)```", Pattern.DOTALL);
    private static final Pattern CALL = Pattern.compile("log\\.(\\w+)\\(([^)]*)\\); +// ([\\w-]+)(?:: .+)?");
    private static final String NEW_LOG = "MirrorLog log = new MirrorLog();";
    private static final Check CHECK = new Check();

    public static void main(String[] args) throws IOException {
        String readme = Files.readString(Path.of("README.md"));
        example(readme);
        calls(readme);
        constants(readme);
        tests(readme);
        CHECK.finish("ReadmeTest");
    }

    private static void example(String readme) {
        Matcher code = CODE.matcher(readme);
        CHECK.due("README.md has lines of code", code.find(), true);
        Set<String> shown = new TreeSet<>();
        MirrorLog log = new MirrorLog();
        for (String line : code.group(1).split("\n")) {
            Matcher call = CALL.matcher(line);
            if (call.matches()) {
                shown.add(call.group(1));
                dueText(line, answer(log, call.group(1), call.group(2)), call.group(3));
            } else {
                CHECK.due("'" + line + "' is a call with its answer", line.isEmpty() || line.equals(NEW_LOG), true);
            }
        }
        dueText("the calls shown", shown.toString(), namesOfTheFace().toString());
    }

    private static Set<String> namesOfTheFace() {
        Set<String> names = new TreeSet<>();
        for (Method method : face()) {
            names.add(method.getName());
        }
        return names;
    }

    private static List<Method> face() {
        List<Method> face = new ArrayList<>();
        for (Method method : MirrorLog.class.getMethods()) {
            if (method.getDeclaringClass() == MirrorLog.class) {
                face.add(method);
            }
        }
        return face;
    }

    private static String answer(MirrorLog log, String name, String arguments) {
        Object[] values = arguments.isEmpty() ? new Object[0]
            : Arrays.stream(arguments.split(", ")).map(Integer::valueOf).toArray();
        for (Method method : face()) {
            if (method.getName().equals(name) && method.getParameterCount() == values.length) {
                return answer(log, method, values);
            }
        }
        return "no such call";
    }

    private static String answer(MirrorLog log, Method method, Object[] values) {
        try {
            Object answer = method.invoke(log, values);
            return answer.equals(MirrorLog.NONE) ? "NONE" : answer.equals(MirrorLog.FULL) ? "FULL" : answer.toString();
        } catch (InvocationTargetException e) {
            return e.getCause().getClass().getSimpleName();
        } catch (IllegalAccessException e) {
            return "no public call";
        }
    }

    /** Each call has a row of the table, with what it takes, what it answers and how it refuses. */
    private static void calls(String readme) {
        for (Method method : face()) {
            String begin = "| `" + method.getReturnType() + " " + method.getName() + "(";
            long rows = readme.lines().filter(line -> line.startsWith(begin) && cells(line) == 4).count();
            CHECK.due("rows of the table for " + method.getName(), rows, 1);
        }
        CHECK.due("README.md tells how an object is made", readme.contains("`new MirrorLog()`"), true);
        CHECK.due("README.md tells what is thrown",
            readme.contains("`byteAt` throws `ArrayIndexOutOfBoundsException`"), true);
    }

    private static long cells(String line) {
        return Arrays.stream(line.split("\\|")).filter(cell -> !cell.isBlank()).count();
    }

    private static void constants(String readme) {
        CHECK.due("README.md tells NONE", readme.contains("`MirrorLog.NONE` is " + MirrorLog.NONE), true);
        CHECK.due("README.md tells FULL", readme.contains("`MirrorLog.FULL` is " + MirrorLog.FULL), true);
    }

    private static void tests(String readme) {
        CHECK.due("README.md tells how tests are run", readme.contains("    .ci/run\n"), true);
        try (Stream<Path> files = Files.list(Path.of("src/test/java"))) {
            files.map(file -> file.getFileName().toString().replace(".java", ""))
                .forEach(name -> CHECK.due("README.md names " + name, readme.contains("`" + name + "`"), true));
        } catch (IOException e) {
            throw new UncheckedIOException(e);
        }
    }

    private static void dueText(String what, String got, String want) {
        CHECK.due(what + " (got " + got + ")", got.equals(want), true);
    }
}
