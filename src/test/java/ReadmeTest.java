import java.net.URL;
import java.net.URLClassLoader;
import java.nio.file.Files;
import java.nio.file.Path;
import java.util.ArrayList;
import java.util.Comparator;
import java.util.List;
import java.util.TreeSet;
import java.util.regex.Matcher;
import java.util.regex.Pattern;
import java.util.stream.Stream;
import javax.tools.JavaCompiler;
import javax.tools.ToolProvider;

/** README.md: its examples are compiled and run as they stand there, and each call of the face is named. */
public final class ReadmeTest {
    private static final Check check = new Check("ReadmeTest");
    /** A call of an example, and behind it what it answers. */
    private static final Pattern ANSWERED = Pattern.compile("(x\\..*); +// (-?[0-9]+|true|false|throws \\w+).*");

    public static void main(String[] args) throws Exception {
        String page = Files.readString(Path.of("README.md"));
        namesEachCall(page);
        runExamples(page);
        check.end();
    }

    private static void namesEachCall(String page) throws Exception {
        String face = Files.readString(Path.of("src/main/java/FirstAsleep.java"));
        Matcher m = Pattern.compile("(?m)^    public (?:int|long|boolean) (\\w+)\\(([^)]*)\\)").matcher(face);
        TreeSet<String> calls = new TreeSet<>();
        while (m.find()) {
            calls.add(m.group(1) + "(" + m.group(2).replaceAll("int ", "") + ")");
        }
        check.same("calls of the face", calls.size(), 38);
        for (String call : calls) {
            check.holds("README.md names `" + call + "`", page.contains("`" + call + "`"));
        }
    }

    /** A call that an example tells to throw. */
    public interface Made {
        long answer();
    }

    /** What the example's class calls for each answer that README.md tells. */
    public static void answers(String call, Object got, String want) {
        check.holds("README.md: " + call + " answers " + got + ", told is " + want, String.valueOf(got).equals(want));
    }

    public static void refuses(String call, String want, Made made) {
        try {
            check.holds("README.md: " + call + " answers " + made.answer() + ", told is " + want, false);
        } catch (RuntimeException e) {
            answers(call, "throws " + e.getClass().getSimpleName(), want);
        }
    }

    private static List<String> blocks(String page) {
        List<String> found = new ArrayList<>();
        Matcher m = Pattern.compile("(?s)```java\n(.*?)```").matcher(page);
        while (m.find()) {
            found.add(m.group(1));
        }
        return found;
    }

    private static void runExamples(String page) throws Exception {
        StringBuilder members = new StringBuilder();
        StringBuilder body = new StringBuilder();
        int answered = 0;
        for (String block : blocks(page)) {
            if (block.startsWith("static ")) {
                members.append(block);
                continue;
            }
            for (String line : block.split("\n")) {
                Matcher m = ANSWERED.matcher(line);
                boolean answer = m.matches();
                answered += answer ? 1 : 0;
                body.append(answer ? checked(m.group(1), m.group(2)) : line).append('\n');
            }
        }
        check.holds("README.md tells answers, " + answered, answered > 20);
        Path folder = Files.createTempDirectory("readme");
        try {
            run(folder, "public final class ReadmeExample {\n" + members + "public static void run() {\n" + body + "}\n}\n");
        } finally {
            remove(folder);
        }
    }

    private static String checked(String call, String want) {
        String quoted = "\"" + call.replace("\"", "\\\"") + "\", ";
        return want.startsWith("throws ")
            ? "ReadmeTest.refuses(" + quoted + "\"" + want + "\", () -> " + call + ");"
            : "ReadmeTest.answers(" + quoted + call + ", \"" + want + "\");";
    }

    private static void run(Path folder, String code) throws Exception {
        JavaCompiler compiler = ToolProvider.getSystemJavaCompiler();
        if (compiler == null) {
            System.out.println("this java has no compiler: README.md's examples are not run");
            return;
        }
        String file = Files.writeString(folder.resolve("ReadmeExample.java"), code).toString();
        String classes = System.getProperty("java.class.path");
        int failed = compiler.run(null, null, null, "-cp", classes, "-d", folder.toString(), file);
        check.same("README.md's examples compile", failed, 0);
        if (failed != 0) {
            return;
        }
        try (URLClassLoader loader = new URLClassLoader(new URL[] {folder.toUri().toURL()})) {
            loader.loadClass("ReadmeExample").getMethod("run").invoke(null);
        }
    }

    private static void remove(Path folder) throws Exception {
        try (Stream<Path> all = Files.walk(folder)) {
            for (Path path : all.sorted(Comparator.reverseOrder()).toList()) {
                Files.delete(path);
            }
        }
    }
}
