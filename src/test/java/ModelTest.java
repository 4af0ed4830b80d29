import java.lang.reflect.InvocationTargetException;
import java.lang.reflect.Method;
import java.lang.reflect.Modifier;
import java.util.ArrayList;
import java.util.Arrays;
import java.util.Comparator;
import java.util.List;
import java.util.Random;

/** Random runs of calls, each answered by the program and by the Model; fixed seeds, so every run is the same. */
public final class ModelTest {
    private static final String[] LAW_WORDS =
        {"snores", "wine", "cold", "depth", "tired", "heard", "light", "minute", "awake"};
    /** Bounds that the document names, and what is next to them. */
    private static final int[] EDGES = {-1, 0, 1, 2, 3, 4, 5, 7, 8, 9, 10, 12, 13, 16, 17, 20, 21, 30, 31, 40, 41, 60, 61,
        99, 100, 119, 120, 121, 238, 239, 240, 241, Integer.MIN_VALUE, Integer.MAX_VALUE};
    private static final List<Method> FACE = new ArrayList<>();

    private final Random random;
    private final FirstAsleep x = new FirstAsleep();
    private final Model model = new Model();
    private final List<String> calls = new ArrayList<>();

    private ModelTest(long seed) {
        random = new Random(seed);
    }

    public static void main(String[] args) throws Exception {
        for (Method m : FirstAsleep.class.getDeclaredMethods()) {
            if (Modifier.isPublic(m.getModifiers()) && !m.getName().equals("feed")) {
                FACE.add(m);
            }
        }
        FACE.sort(Comparator.comparing(Method::getName));
        int runs = args.length > 0 ? Integer.parseInt(args[0]) : 250;
        int first = args.length > 1 ? Integer.parseInt(args[1]) : 0;
        int total = 0;
        for (int run = first; run < first + runs; run++) {
            ModelTest test = new ModelTest(run);
            if (!test.agrees()) {
                System.out.println("run " + run + " differs:");
                test.calls.forEach(System.out::println);
                System.exit(1);
            }
            total += test.calls.size();
        }
        System.out.println("ModelTest: " + runs + " runs, " + total + " calls agree");
    }

    private boolean agrees() throws Exception {
        if (!text("house", houseText()) || random.nextInt(3) > 0 && !text("law", lawText(2), random.nextInt(2))) {
            return false;
        }
        for (int i = 0; i < 150; i++) {
            int kind = random.nextInt(100);
            boolean same;
            if (kind < 2) {
                same = text("house", maybeSpoilt(houseText()));
            } else if (kind < 6) {
                same = text("law", maybeSpoilt(lawText(random.nextInt(4))), random.nextInt(2));
            } else if (kind < 22) {
                same = text("work", maybeSpoilt(workText(random.nextInt(3))));
            } else if (kind < 26) {
                same = text("book", maybeSpoilt(bookText()));
            } else if (kind < 28) {
                same = feed(random.nextInt(), random.nextInt(), random.nextInt(), random.nextInt(), random.nextInt());
            } else {
                same = anyCall(FACE.get(random.nextInt(FACE.size())));
            }
            if (!same) {
                return false;
            }
        }
        return true;
    }

    // ---- calls ----

    private boolean anyCall(Method m) throws Exception {
        Object[] values = new Object[m.getParameterCount()];
        for (int i = 0; i < values.length; i++) {
            values[i] = anyNumber();
        }
        return same(m, values, "");
    }

    private int anyNumber() {
        switch (random.nextInt(12)) {
            case 0: return random.nextInt(10) - 1;
            case 1: return random.nextInt(260) - 5;
            case 2: return random.nextInt(65);
            case 3: return random.nextInt(20);
            case 4: return random.nextInt(40) == 0 ? random.nextInt() : random.nextInt(18);
            case 5: return random.nextInt(35);
            case 6: return EDGES[random.nextInt(EDGES.length)];
            default: return random.nextInt(3);
        }
    }

    private boolean feed(int... v) throws Exception {
        Method m = FirstAsleep.class.getMethod("feed", int.class, int.class, int.class, int.class, int.class);
        return same(m, Arrays.stream(v).boxed().toArray(), "");
    }

    private boolean text(String name, String text, int... ahead) throws Exception {
        if (model.tape.length() > 0 && !emptied()) {
            return false;
        }
        for (int from = 0; from < text.length(); from += 20) {
            int[] four = new int[5];
            for (int i = 0; i < 20; i++) {
                four[i / 4] = four[i / 4] << 8 | (from + i < text.length() ? text.charAt(from + i) & 255 : 0);
            }
            if (!feed(four)) {
                return false;
            }
        }
        boolean ok = ahead.length == 0
            ? same(FirstAsleep.class.getMethod(name, int.class), new Object[] {text.length()}, text)
            : same(FirstAsleep.class.getMethod(name, int.class, int.class), new Object[] {ahead[0], text.length()}, text);
        return ok && same(FirstAsleep.class.getMethod("fault"), new Object[0], "")
            && same(FirstAsleep.class.getMethod("told", int.class), new Object[] {random.nextInt(8)}, "");
    }

    /** A text begins on an empty tape: what lies there is read as a book, whose fault leaves all as it is. */
    private boolean emptied() throws Exception {
        return same(FirstAsleep.class.getMethod("book", int.class), new Object[] {Math.min(100, model.tape.length())}, "");
    }

    private boolean same(Method m, Object[] values, String text) throws Exception {
        String got = answer(m, x, values);
        String due = answer(Model.class.getMethod(m.getName(), m.getParameterTypes()), model, values);
        calls.add(m.getName() + Arrays.toString(values) + " -> " + got + (got.equals(due) ? "" : ", due is " + due)
            + (text.isEmpty() ? "" : "   '" + text + "'"));
        return got.equals(due);
    }

    private static String answer(Method m, Object on, Object[] values) throws Exception {
        m.setAccessible(true);
        try {
            return String.valueOf(m.invoke(on, values));
        } catch (InvocationTargetException e) {
            return "throws " + e.getCause().getClass().getName();
        }
    }

    // ---- texts ----

    private String pick(String... of) {
        return of[random.nextInt(of.length)];
    }

    private String blanks() {
        return random.nextInt(8) == 0 ? " ".repeat(random.nextInt(3)) : "";
    }

    private String number(int most) {
        return (random.nextInt(10) == 0 ? "00" : "") + random.nextInt(most + 1);
    }

    private String houseText() {
        StringBuilder b = new StringBuilder();
        int sleepers = random.nextInt(30) == 0 ? 0 : 1 + random.nextInt(5);
        for (int i = 0; i < sleepers; i++) {
            int snores = random.nextInt(3) == 0 ? 0 : random.nextInt(10);
            b.append(blanks()).append("sleeper ").append(number(random.nextInt(3) == 0 ? 60 : 16)).append(' ')
                .append(number(20)).append(' ').append(snores).append(' ').append(number(1)).append(blanks()).append(';');
        }
        int others = random.nextInt(12);
        for (int i = 0; i < others; i++) {
            String p = String.valueOf(random.nextInt(Math.max(1, sleepers)));
            switch (random.nextInt(8)) {
                case 0: b.append("wine ").append(p).append(' ').append(number(9)); break;
                case 1: b.append("cold ").append(p).append(' ').append(number(9)); break;
                case 2: b.append("plug").append(p).append(' ').append(number(20)); break;
                case 3: b.append("wall ").append(number(40)); break;
                case 4: b.append("over ").append(1 + random.nextInt(6)); break;
                case 5: b.append("owes ").append(p).append(' ').append(number(240)); break;
                default: b.append("clock ").append(number(random.nextInt(2) == 0 ? 10 : 59)).append(' ').append(number(40));
            }
            b.append(';').append(blanks());
        }
        return b.toString();
    }

    private String expression(int deep) {
        if (deep <= 0) {
            return random.nextInt(3) == 0 ? number(random.nextInt(4) == 0 ? 999 : 12) : pick(LAW_WORDS);
        }
        String a = expression(deep - 1 - random.nextInt(2));
        String c = expression(deep - 1 - random.nextInt(2));
        switch (random.nextInt(7)) {
            case 0: return "(" + blanks() + a + blanks() + ")";
            case 1: return "least[" + a + "," + c + "]";
            case 2: return "most[" + a + "," + c + blanks() + "]";
            case 3: return a + pick("*", "/") + c;
            default: return a + blanks() + pick("+", "-") + blanks() + c;
        }
    }

    private String lawText(int deep) {
        String text = expression(deep);
        return text.length() > 150 ? "tired" : text;
    }

    private String workText(int deep) {
        StringBuilder b = new StringBuilder();
        if (deep == 2 && random.nextInt(8) == 0) {
            // so that the last minute is come to now and then
            b.append("again ").append(50 + random.nextInt(11)).append("[minute;minute;minute;minute;];");
        }
        int steps = random.nextInt(6);
        int sleepers = Math.max(1, model.home.sleepers.size());
        for (int i = 0; i < steps; i++) {
            String step = stepText(sleepers, deep);
            if (b.length() + step.length() > (deep == 0 ? 40 : 120)) {
                break;
            }
            b.append(step).append(blanks()).append(';');
        }
        return b.length() > 150 ? "minute;" : b.toString();
    }

    private String stepText(int sleepers, int deep) {
        String p = String.valueOf(random.nextInt(sleepers));
        switch (random.nextInt(9)) {
            case 0: return "nudge " + p + " " + random.nextInt(sleepers);
            case 1: return "turn " + p;
            case 2: return "room " + p;
            case 3: return "plug " + p + " " + number(20);
            case 4: return "call" + p;
            case 5:
            case 6: return "minute";
            default:
                int times = random.nextInt(random.nextInt(4) == 0 ? 61 : 6);
                return "again " + times + "[" + (deep > 0 ? workText(deep - 1) : "minute;") + "]";
        }
    }

    private String bookText() {
        StringBuilder b = new StringBuilder();
        int many = random.nextInt(4) == 0 ? random.nextInt(10) : random.nextInt(3);
        int sleepers = model.home.sleepers.size();
        for (int i = 0; i < many; i++) {
            int m = random.nextInt(random.nextInt(2) == 0 ? 12 : 240);
            // often what one of them would be, so that something fits
            int heard = sleepers > 0 && random.nextInt(4) > 0
                ? hadBy(random.nextInt(sleepers), m) : random.nextInt(41);
            b.append(m).append(' ').append(heard).append(';');
        }
        return b.toString();
    }

    private int hadBy(int p, int m) {
        Model.Told t = model.home.sleepers.get(p);
        return model.loudBy(t.snores, t.wine, t.cold, Math.min(9, m + 1), Math.max(0, t.tired - m), t.light, m);
    }

    /** Now and then one sign is another, gone, or there twice, or the text ends early. */
    private String maybeSpoilt(String text) {
        if (random.nextInt(3) > 0 || text.isEmpty()) {
            return text;
        }
        int i = random.nextInt(text.length());
        String head = text.substring(0, i);
        String tail = text.substring(i);
        switch (random.nextInt(4)) {
            case 0: return head;
            case 1: return head + tail.substring(1);
            case 2: return head + (char) (random.nextInt(3) == 0 ? random.nextInt(256) : "0129;[](),+-*/ az".charAt(random.nextInt(17))) + tail.substring(1);
            default: return (head + tail.charAt(0) + tail).substring(0, Math.min(text.length() + 1, 100));
        }
    }
}
