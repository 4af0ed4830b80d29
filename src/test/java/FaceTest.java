import java.lang.reflect.Constructor;
import java.lang.reflect.Field;
import java.lang.reflect.Method;
import java.lang.reflect.Modifier;
import java.nio.file.Files;
import java.nio.file.Path;
import java.util.Arrays;
import java.util.HashSet;
import java.util.List;
import java.util.Set;
import java.util.TreeSet;
import java.util.regex.Matcher;
import java.util.regex.Pattern;

/** The face as the document tells it, what of LANGUAGE.md can be seen from outside, and what calls leave behind. */
public final class FaceTest {
    private static final Check check = new Check("FaceTest");
    private static final Path SOURCE = Path.of("src/main/java/FirstAsleep.java");

    public static void main(String[] args) throws Exception {
        faceIsTheDocuments();
        membersAreHidden();
        noForbiddenSigns();
        methodsAreShort();
        callsMakeNothing();
        anObjectIsSmall();
        check.end();
    }

    private static void faceIsTheDocuments() throws Exception {
        Path doc = Path.of("../shared/DOC.md");
        if (!Files.exists(doc)) {
            return;
        }
        Set<String> due = new TreeSet<>();
        Matcher m = Pattern.compile("(?m)^    public (int|long|boolean) (\\w+)\\(([^)]*)\\)").matcher(Files.readString(doc));
        while (m.find()) {
            int parameters = m.group(3).isBlank() ? 0 : m.group(3).split(",").length;
            due.add(m.group(1) + " " + m.group(2) + " " + parameters);
        }
        Set<String> got = new TreeSet<>();
        for (Method method : FirstAsleep.class.getDeclaredMethods()) {
            if (Modifier.isPublic(method.getModifiers())) {
                got.add(method.getReturnType() + " " + method.getName() + " " + method.getParameterCount());
            }
        }
        check.same("public methods", got.size(), 38);
        check.holds("the methods of the document " + due + " are those of the class " + got, got.equals(due));
    }

    private static void membersAreHidden() {
        check.holds("the class is public and final", Modifier.isPublic(FirstAsleep.class.getModifiers())
            && Modifier.isFinal(FirstAsleep.class.getModifiers()));
        Set<String> faceNames = new HashSet<>();
        for (Method m : FirstAsleep.class.getDeclaredMethods()) {
            check.holds(m.getName() + " is public or private", (m.getModifiers() & (Modifier.PUBLIC | Modifier.PRIVATE)) != 0);
            if (Modifier.isPublic(m.getModifiers())) {
                faceNames.add(m.getName());
            }
        }
        for (Field f : FirstAsleep.class.getDeclaredFields()) {
            check.holds(f.getName() + " is private, or NONE", Modifier.isPrivate(f.getModifiers()) || f.getName().equals("NONE"));
            check.holds(f.getName() + " is final, if static", !Modifier.isStatic(f.getModifiers()) || Modifier.isFinal(f.getModifiers()));
        }
        Constructor<?>[] constructors = FirstAsleep.class.getDeclaredConstructors();
        check.same("constructors", constructors.length, 1);
        List<Class<?>> inside = Arrays.asList(FirstAsleep.class.getDeclaredClasses());
        check.holds("twelve classes at most", inside.size() < 12);
        for (Class<?> c : inside) {
            check.holds(c.getName() + " is static", Modifier.isStatic(c.getModifiers()));
            long fields = Arrays.stream(c.getDeclaredFields()).filter(f -> !Modifier.isStatic(f.getModifiers())).count();
            check.holds(c.getName() + " has twenty fields at most", fields <= 20);
            for (Method m : c.getDeclaredMethods()) {
                check.holds(c.getName() + "." + m.getName() + " bears no name of the face", !faceNames.contains(m.getName()));
                check.holds(m.getName() + " takes seven at most", m.getParameterCount() <= 7);
            }
        }
    }

    private static String code() throws Exception {
        String text = Files.readString(SOURCE);
        return text.replaceAll("(?s)/\\*.*?\\*/", "").replaceAll("//[^\n]*", "");
    }

    private static void noForbiddenSigns() throws Exception {
        String code = code();
        String[] forbidden = {"->", "::", "\\btry\\b", "\\bcatch\\b", "\\bfinally\\b", "\\bsynchronized\\b", "\\bassert\\b",
            "Exact\\(", "static \\{", "\\bfloat\\b", "\\bdouble\\b", "\\bSystem\\.(?!arraycopy)", "\\bpackage\\b",
            "while \\(true\\)", "\\bprotected\\b", "\\bvar\\b"};
        for (String f : forbidden) {
            check.holds("no " + f + " in the program", !Pattern.compile(f).matcher(code).find());
        }
        Matcher imports = Pattern.compile("(?m)^import (.*);").matcher(code);
        while (imports.find()) {
            check.holds("import of " + imports.group(1), imports.group(1).equals("java.util.NoSuchElementException"));
        }
        check.holds("signs 1 to 127", code.chars().allMatch(c -> c > 0 && c < 128));
    }

    private static void methodsAreShort() throws Exception {
        int from = 0;
        String name = "";
        int line = 0;
        for (String text : Files.readAllLines(SOURCE)) {
            line++;
            if (text.matches("^ {4}( {4})?[\\w].*\\(.*\\).*\\{$|^ {4}( {4})?(private|public).*\\($")) {
                from = line;
                name = text.trim();
            }
            if (text.matches("^ {4}( {4})?\\}$") && from > 0) {
                check.holds(name + " has sixty lines at most, has " + (line - from + 1), line - from + 1 <= 60);
                from = 0;
            }
        }
    }

    private static com.sun.management.ThreadMXBean meter() {
        return (com.sun.management.ThreadMXBean) java.lang.management.ManagementFactory.getThreadMXBean();
    }

    /** All calls of a run live in one room: the dear ones make no objects at all. */
    private static void callsMakeNothing() {
        FirstAsleep x = Check.of("sleeper 40 0 9 0;sleeper 30 4 5 0;sleeper 20 3 8 1;sleeper 9 9 9 1;sleeper 8 8 8 0;");
        Check.feed(x, "again 60[minute;];");
        dearCalls(x);
        long before = meter().getCurrentThreadAllocatedBytes();
        for (int i = 0; i < 20; i++) {
            dearCalls(x);
        }
        long made = meter().getCurrentThreadAllocatedBytes() - before;
        check.holds("240 dear calls make nothing, made " + made + " bytes", made < 20000);
    }

    private static void dearCalls(FirstAsleep x) {
        x.hurry(0, 1, 8, 120, 0);
        x.best(0, 240);
        x.nudges(0, 1, 120, 0);
        x.rooms(120, 0);
        x.inTurns(31, 12);
        x.listen(0, 0);
        x.wall(240);
        x.plugs(0, 240, 240);
        x.span(1, 20, 8, 9, 240, 0);
        x.pauses(7, 2, 12, 0);
        x.image();
        x.restore();
    }

    private static void anObjectIsSmall() {
        new FirstAsleep();
        long before = meter().getCurrentThreadAllocatedBytes();
        for (int i = 0; i < 100; i++) {
            new FirstAsleep();
        }
        long each = (meter().getCurrentThreadAllocatedBytes() - before) / 100;
        check.holds("an object holds 8,000 numbers at most, has " + each + " bytes", each < 32000);
    }
}
