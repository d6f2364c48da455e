import java.lang.reflect.Method;
import java.net.URL;
import java.net.URLClassLoader;
import java.nio.file.Files;
import java.nio.file.Path;
import java.util.ArrayList;
import java.util.Comparator;
import java.util.List;
import java.util.Set;
import java.util.TreeSet;
import java.util.function.IntConsumer;
import java.util.regex.Matcher;
import java.util.regex.Pattern;
import java.util.stream.Stream;
import javax.tools.ToolProvider;

/** README.md: its code compiles, every call answers what stands behind it, and every method of the face is shown. */
public final class ReadmeTest {
    private static final Pattern BLOCK = Pattern.compile("(?s)```java\n(.*?)```");
    private static final Pattern CALL = Pattern.compile("(?m)^(butts\\.(\\w+)\\(.*?\\));(\\s+// (-?\\d+)(:.*)?)?$");

    public static void main(String[] args) throws Exception {
        String methods = "";
        String calls = "";
        Matcher block = BLOCK.matcher(Files.readString(Path.of("README.md")));
        while (block.find()) {
            if (block.group(1).startsWith("static ")) {
                methods += block.group(1);
            } else {
                calls += block.group(1);
            }
        }
        everyCallIsAnswered(calls);
        answersAreDue(calls, answersOf(methods, calls));
        Check.finish();
    }

    private static void everyCallIsAnswered(String calls) {
        Set<String> shown = new TreeSet<>();
        Matcher call = CALL.matcher(calls);
        while (call.find()) {
            shown.add(call.group(2));
            Check.due(call.group() + " has an answer", 1, call.group(4) == null ? 0 : 1);
        }
        for (Method method : StrawButts.class.getMethods()) {
            if (method.getDeclaringClass() == StrawButts.class) {
                Check.due(method.getName() + " is shown", 1, shown.contains(method.getName()) ? 1 : 0);
            }
        }
    }

    private static void answersAreDue(String calls, List<Integer> answers) {
        Matcher call = CALL.matcher(calls);
        int next = 0;
        while (call.find()) {
            int got = next < answers.size() ? answers.get(next) : Integer.MIN_VALUE;
            Check.due(call.group(1), Integer.parseInt(call.group(4)), got);
            next++;
        }
        Check.due("calls", next, answers.size());
    }

    /** The page's own code, compiled and run. */
    private static List<Integer> answersOf(String methods, String calls) throws Exception {
        String source = "public final class Page {\n" + methods
            + "public static void run(java.util.function.IntConsumer answers) {\n"
            + CALL.matcher(calls).replaceAll("answers.accept($1);") + "}\n}\n";
        List<Integer> answers = new ArrayList<>();
        IntConsumer taker = answers::add;
        Path out = Files.createTempDirectory("readme");
        try {
            Path file = Files.writeString(out.resolve("Page.java"), source);
            int code = ToolProvider.getSystemJavaCompiler().run(null, null, null,
                "-cp", System.getProperty("java.class.path"), "-d", out.toString(), file.toString());
            Check.due("the page's code compiles", 0, code);
            if (code == 0) {
                try (URLClassLoader loader = new URLClassLoader(new URL[] {out.toUri().toURL()})) {
                    loader.loadClass("Page").getMethod("run", IntConsumer.class).invoke(null, taker);
                }
            }
        } finally {
            remove(out);
        }
        return answers;
    }

    private static void remove(Path directory) throws Exception {
        try (Stream<Path> inside = Files.walk(directory)) {
            for (Path path : inside.sorted(Comparator.reverseOrder()).toList()) {
                Files.delete(path);
            }
        }
    }
}
