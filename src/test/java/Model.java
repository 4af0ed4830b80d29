import java.math.BigInteger;
import java.util.ArrayList;
import java.util.HashMap;
import java.util.List;
import java.util.Map;
import java.util.NoSuchElementException;

/**
 * The document a second time, in its plainest form and with no thought of speed: what ModelTest
 * compares the program with. It shares no code with it and is built the other way round on purpose
 * (tokens first, trees, one object a sleeper, brute force).
 */
final class Model {
    // ---- texts ----

    static final class Fault extends RuntimeException {
        private static final long serialVersionUID = 1L;
        final int kind;
        final int place;

        Fault(int kind, int place) {
            super("", null, false, false);
            this.kind = kind;
            this.place = place;
        }
    }

    record Token(char type, String text, int place) { }

    static final class Tokens {
        final List<Token> all = new ArrayList<>();
        int next = 0;

        Tokens(String text) {
            int i = 0;
            while (i < text.length()) {
                int from = i;
                char c = text.charAt(i);
                if (c == ' ') {
                    i++;
                    continue;
                }
                char type = Character.toString(c).matches("[0-9]") ? 'n' : Character.toString(c).matches("[a-z]") ? 'w' : 's';
                String allowed = type == 'n' ? "[0-9]" : "[a-z]";
                i++;
                while (type != 's' && i < text.length() && text.substring(i, i + 1).matches(allowed)) {
                    i++;
                }
                all.add(new Token(type, text.substring(from, i), from));
            }
            all.add(new Token('e', "", text.length()));
        }

        Token peek() {
            return all.get(next);
        }

        Token take() {
            return all.get(next++);
        }

        boolean at(String sign) {
            return peek().type() == 's' && peek().text().equals(sign);
        }

        boolean ended() {
            return peek().type() == 'e';
        }

        void sign(String sign) {
            if (!at(sign)) {
                throw new Fault(1, peek().place());
            }
            take();
        }

        int number(int least, int most) {
            if (peek().type() != 'n') {
                throw new Fault(1, peek().place());
            }
            Token t = take();
            BigInteger value = new BigInteger(t.text());
            if (value.compareTo(BigInteger.valueOf(least)) < 0 || value.compareTo(BigInteger.valueOf(most)) > 0) {
                throw new Fault(2, t.place());
            }
            return value.intValue();
        }

        Token word(String... known) {
            if (peek().type() == 'w') {
                for (String k : known) {
                    if (peek().text().equals(k)) {
                        return take();
                    }
                }
            }
            throw new Fault(1, peek().place());
        }
    }

    interface Expr {
        int of(Map<String, Integer> given);
    }

    static Expr parseLaw(String text) {
        Tokens t = new Tokens(text);
        Expr e = sum(t, 0);
        if (!t.ended()) {
            throw new Fault(1, t.peek().place());
        }
        return e;
    }

    private static Expr sum(Tokens t, int open) {
        Expr left = product(t, open);
        while (t.at("+") || t.at("-")) {
            boolean plus = t.take().text().equals("+");
            Expr a = left;
            Expr b = product(t, open);
            left = g -> plus ? a.of(g) + b.of(g) : a.of(g) - b.of(g);
        }
        return left;
    }

    private static Expr product(Tokens t, int open) {
        Expr left = unit(t, open);
        while (t.at("*") || t.at("/")) {
            boolean times = t.take().text().equals("*");
            Expr a = left;
            Expr b = unit(t, open);
            left = g -> times ? a.of(g) * b.of(g) : b.of(g) == 0 ? 0 : (int) ((long) a.of(g) / b.of(g));
        }
        return left;
    }

    private static Expr unit(Tokens t, int open) {
        if (t.peek().type() == 'n') {
            int n = t.number(0, 999);
            return g -> n;
        }
        int place = t.peek().place();
        if (t.at("(")) {
            if (open == 6) {
                throw new Fault(3, place);
            }
            t.take();
            Expr e = sum(t, open + 1);
            t.sign(")");
            return e;
        }
        String word = t.word("snores", "wine", "cold", "depth", "tired", "heard", "light", "minute", "awake",
                "least", "most").text();
        if (!word.equals("least") && !word.equals("most")) {
            return g -> g.get(word);
        }
        if (open == 6) {
            throw new Fault(3, place);
        }
        t.sign("[");
        Expr a = sum(t, open + 1);
        t.sign(",");
        Expr b = sum(t, open + 1);
        t.sign("]");
        return word.equals("least") ? g -> Math.min(a.of(g), b.of(g)) : g -> Math.max(a.of(g), b.of(g));
    }

    // ---- the house ----

    static final class Told {
        int tired;
        int light;
        int snores;
        int room;
        int wine;
        int cold;
        int plug;
        int owes;
    }

    static final class House {
        final List<Told> sleepers = new ArrayList<>();
        final List<int[]> clocks = new ArrayList<>();
        int wall = 10;
        int over = 9;

        int strikes(int minute) {
            int sum = 0;
            for (int[] clock : clocks) {
                sum += minute % 60 == clock[0] ? clock[1] : 0;
            }
            return sum;
        }
    }

    static House parseHouse(String text) {
        House h = new House();
        Tokens t = new Tokens(text);
        int clauses = 0;
        while (!t.ended()) {
            Token w = t.word("sleeper", "wine", "cold", "plug", "wall", "over", "clock", "owes");
            boolean sixth = w.text().equals("sleeper") && h.sleepers.size() == 5;
            boolean seventh = w.text().equals("clock") && h.clocks.size() == 6;
            if (clauses == 60 || sixth || seventh) {
                throw new Fault(3, w.place());
            }
            clauses++;
            int last = h.sleepers.size() - 1;
            switch (w.text()) {
                case "sleeper" -> {
                    Told s = new Told();
                    s.tired = t.number(0, 60);
                    s.light = t.number(0, 20);
                    s.snores = t.number(0, 9);
                    s.room = t.number(0, 1);
                    h.sleepers.add(s);
                }
                case "wine" -> h.sleepers.get(t.number(0, last)).wine = t.number(0, 9);
                case "cold" -> h.sleepers.get(t.number(0, last)).cold = t.number(0, 9);
                case "plug" -> h.sleepers.get(t.number(0, last)).plug = t.number(0, 20);
                case "owes" -> h.sleepers.get(t.number(0, last)).owes = t.number(0, 240);
                case "wall" -> h.wall = t.number(0, 40);
                case "over" -> h.over = t.number(1, 60);
                default -> h.clocks.add(new int[] {t.number(0, 59), t.number(0, 40)});
            }
            t.sign(";");
        }
        return h;
    }

    // ---- work ----

    static final class Step {
        String word = "";
        int a;
        int b;
        List<Step> body = new ArrayList<>();
    }

    static List<Step> parseWork(String text, int sleepers) {
        Tokens t = new Tokens(text);
        List<Step> steps = parseSteps(t, sleepers, 0);
        if (!t.ended()) {
            throw new Fault(1, t.peek().place());
        }
        return steps;
    }

    private static List<Step> parseSteps(Tokens t, int sleepers, int open) {
        List<Step> steps = new ArrayList<>();
        while (!t.ended() && !t.at("]")) {
            Token w = t.word("nudge", "turn", "room", "plug", "call", "minute", "again");
            Step s = new Step();
            s.word = w.text();
            if (s.word.equals("again")) {
                if (open == 6) {
                    throw new Fault(3, w.place());
                }
                s.a = t.number(0, 60);
                t.sign("[");
                s.body = parseSteps(t, sleepers, open + 1);
                t.sign("]");
            } else if (!s.word.equals("minute")) {
                s.a = t.number(0, sleepers - 1);
                if (s.word.equals("nudge")) {
                    s.b = t.number(0, sleepers - 1);
                } else if (s.word.equals("plug")) {
                    s.b = t.number(0, 20);
                }
            }
            t.sign(";");
            steps.add(s);
        }
        return steps;
    }

    static List<int[]> parseBook(String text) {
        Tokens t = new Tokens(text);
        List<int[]> lines = new ArrayList<>();
        while (!t.ended()) {
            int place = t.peek().place();
            int m = t.number(0, 239);
            for (int[] line : lines) {
                if (line[0] == m) {
                    throw new Fault(2, place);
                }
            }
            if (lines.size() == 8) {
                throw new Fault(3, place);
            }
            lines.add(new int[] {m, t.number(0, 40)});
            t.sign(";");
        }
        return lines;
    }

    // ---- the night ----

    static final class Sleeper {
        int tired;
        int room;
        int depth;
        boolean side;
        int sideFor;
        int slept;
        int awake;
        int plugs;

        Sleeper copy() {
            Sleeper s = new Sleeper();
            s.tired = tired;
            s.room = room;
            s.depth = depth;
            s.side = side;
            s.sideFor = sideFor;
            s.slept = slept;
            s.awake = awake;
            s.plugs = plugs;
            return s;
        }
    }

    final class World {
        List<Sleeper> all = new ArrayList<>();
        int minute = 0;
        int woke = 0;
        int passed = 0;
        int wall = home.wall;
        int[] reads = new int[5];

        World copy() {
            World w = new World();
            for (Sleeper s : all) {
                w.all.add(s.copy());
            }
            w.minute = minute;
            w.woke = woke;
            return w;
        }

        int asleep() {
            return (int) all.stream().filter(s -> s.depth > 0).count();
        }

        int slept() {
            return all.stream().mapToInt(s -> s.slept).sum();
        }

        int loud(int p) {
            Told t = home.sleepers.get(p);
            Sleeper s = all.get(p);
            return loudBy(t.snores, t.wine, t.cold, s.depth, s.tired, t.light, minute);
        }

        int reaches(int p, int q) {
            Sleeper s = all.get(q);
            if (p == q || s.depth == 0 || s.side) {
                return 0;
            }
            return s.room == all.get(p).room ? loud(q) : Math.max(0, loud(q) - wall);
        }

        int noise(int p, int car) {
            int sum = home.strikes(minute) + car;
            for (int q = 0; q < all.size(); q++) {
                sum += reaches(p, q);
            }
            return Math.max(0, sum - all.get(p).plugs);
        }

        boolean falls(int p, int car) {
            Told t = home.sleepers.get(p);
            Sleeper s = all.get(p);
            int noise = noise(p, car);
            if (falls == null) {
                return s.tired / 4 - noise > 0;
            }
            return falls.of(given(t.snores, t.wine, t.cold, 0, s.tired, t.light, minute, noise, s.awake)) > 0;
        }

        void wake(Sleeper s) {
            s.depth = 0;
            s.awake = 0;
            s.side = false;
            woke++;
        }

        boolean pass(int car) {
            if (minute == 240) {
                return false;
            }
            List<Sleeper> next = new ArrayList<>();
            for (int p = 0; p < all.size(); p++) {
                Sleeper s = all.get(p).copy();
                next.add(s);
                if (s.depth == 0) {
                    if (passed >= reads[p] && falls(p, car)) {
                        s.depth = 1;
                        s.awake = 0;
                        s.sideFor = 0;
                    } else {
                        s.tired = Math.min(99, s.tired + 1);
                        s.awake++;
                    }
                } else if (noise(p, car) > home.sleepers.get(p).light + s.depth) {
                    wake(s);
                } else {
                    s.depth = Math.min(9, s.depth + 1);
                    s.tired = Math.max(0, s.tired - 1);
                    s.slept++;
                    if (s.side && ++s.sideFor == home.over) {
                        s.side = false;
                    }
                }
            }
            all = next;
            minute++;
            passed++;
            return true;
        }

        World pass(int n, int car) {
            for (int i = 0; i < n; i++) {
                pass(car);
            }
            return this;
        }

        boolean nudge(int p, int q) {
            Sleeper s = all.get(q);
            if (all.get(p).depth > 0 || s.depth == 0 || s.side || s.room != all.get(p).room) {
                return false;
            }
            if (s.depth - 2 <= 0) {
                wake(s);
            } else {
                s.depth -= 2;
                s.side = true;
                s.sideFor = 0;
            }
            return true;
        }

        boolean step(Step step) {
            Sleeper s = step.word.equals("minute") ? null : all.get(step.a);
            switch (step.word) {
                case "minute":
                    return pass(0);
                case "nudge":
                    return nudge(step.a, step.b);
                case "call":
                    if (s.depth == 0) {
                        return false;
                    }
                    wake(s);
                    return true;
                default:
                    break;
            }
            if (s.depth > 0) {
                return false;
            }
            if (step.word.equals("plug")) {
                boolean other = s.plugs != step.b;
                s.plugs = step.b;
                return other;
            }
            if (step.word.equals("turn")) {
                s.side = !s.side;
            } else {
                s.room = 1 - s.room;
            }
            return true;
        }
    }

    record Image(World world, List<World> works) { }

    String tape = "";
    House home = new House();
    Expr loud = null;
    Expr falls = null;
    List<int[]> lines = new ArrayList<>();
    World world = new World();
    List<World> works = new ArrayList<>();
    List<Image> images = new ArrayList<>();
    int faultPlace = -1;
    int refusedSteps = 0;
    int[] refused = new int[2];

    static Map<String, Integer> given(int... values) {
        String[] names = {"snores", "wine", "cold", "depth", "tired", "light", "minute", "heard", "awake"};
        Map<String, Integer> map = new HashMap<>();
        for (int i = 0; i < names.length; i++) {
            map.put(names[i], values[i]);
        }
        return map;
    }

    int loudBy(int snores, int wine, int cold, int depth, int tired, int light, int minute) {
        int value = snores * 2 + wine + cold;
        if (loud != null) {
            value = loud.of(given(snores, wine, cold, depth, tired, light, minute, 0, 0));
        }
        return value < 0 ? 0 : value > 40 ? 40 : value;
    }

    // ---- refusals ----

    private void need(boolean holds) {
        if (!holds) {
            refused[1]++;
            throw new IllegalArgumentException();
        }
    }

    private void sleeperThere(int p) {
        if (p < 0 || p >= home.sleepers.size()) {
            refused[0]++;
            throw new NoSuchElementException();
        }
    }

    private static boolean in(int v, int least, int most) {
        return least <= v && v <= most;
    }

    private String text(int n, int longest) {
        need(in(n, 0, longest) && n <= tape.length());
        String text = tape.substring(0, n);
        tape = "";
        faultPlace = -1;
        return text;
    }

    private int faulty(Fault f) {
        faultPlace = f.place;
        return f.kind - 10;
    }

    // ---- the face ----

    public int feed(int a, int b, int c, int d, int e) {
        if (tape.length() + 20 > 600) {
            return -1;
        }
        for (int v : new int[] {a, b, c, d, e}) {
            for (int shift = 24; shift >= 0; shift -= 8) {
                tape += (char) (v >> shift & 255);
            }
        }
        return tape.length();
    }

    public int house(int n) {
        String text = text(n, 600);
        try {
            home = parseHouse(text);
        } catch (Fault f) {
            return faulty(f);
        }
        loud = null;
        falls = null;
        lines = new ArrayList<>();
        works = new ArrayList<>();
        images = new ArrayList<>();
        refusedSteps = 0;
        world = new World();
        for (Told t : home.sleepers) {
            Sleeper s = new Sleeper();
            s.tired = t.tired;
            s.room = t.room;
            s.plugs = t.plug;
            world.all.add(s);
        }
        return home.sleepers.size();
    }

    public int law(int which, int n) {
        need(which == 0 || which == 1);
        String text = text(n, 150);
        try {
            Expr e = parseLaw(text);
            if (which == 0) {
                loud = e;
            } else {
                falls = e;
            }
            return 1;
        } catch (Fault f) {
            return faulty(f);
        }
    }

    public int work(int n) {
        String text = text(n, 150);
        if (works.size() == 16) {
            return -20;
        }
        List<Step> steps;
        try {
            steps = parseWork(text, home.sleepers.size());
        } catch (Fault f) {
            return faulty(f);
        }
        works.add(world.copy());
        int[] begunDoneRefused = new int[3];
        carryOut(steps, begunDoneRefused);
        refusedSteps = begunDoneRefused[2];
        return begunDoneRefused[1];
    }

    private void carryOut(List<Step> steps, int[] counts) {
        for (Step s : steps) {
            if (counts[0] == 240) {
                return;
            }
            counts[0]++;
            if (s.word.equals("again")) {
                for (int i = 0; i < s.a; i++) {
                    carryOut(s.body, counts);
                }
            } else {
                counts[world.step(s) ? 1 : 2]++;
            }
        }
    }

    public int book(int n) {
        String text = text(n, 100);
        try {
            lines = parseBook(text);
            return lines.size();
        } catch (Fault f) {
            return faulty(f);
        }
    }

    public int fault() {
        return faultPlace;
    }

    public int undo() {
        if (works.isEmpty()) {
            return -1;
        }
        world = works.remove(works.size() - 1);
        refusedSteps = 0;
        return works.size();
    }

    public int told(int what) {
        need(in(what, 0, 7));
        return new int[] {world.all.size(), world.minute, world.asleep(), world.slept(), world.woke, lines.size(),
            refusedSteps, home.wall}[what];
    }

    public int sleeper(int p, int what) {
        sleeperThere(p);
        need(in(what, 0, 9));
        Told t = home.sleepers.get(p);
        Sleeper s = world.all.get(p);
        return new int[] {s.tired, t.light, t.snores, s.room, s.depth, s.side ? 1 : 0, s.slept, s.awake, s.plugs,
            Math.max(0, t.owes - s.slept)}[what];
    }

    public int noise(int p) {
        sleeperThere(p);
        return world.noise(p, 0);
    }

    public int loud(int p) {
        sleeperThere(p);
        return world.loud(p);
    }

    public int would(int snores, int wine, int cold, int depth, int tired) {
        need(in(snores, 0, 9) && in(wine, 0, 9) && in(cold, 0, 9) && in(depth, 0, 9) && in(tired, 0, 99));
        return loudBy(snores, wine, cold, depth, tired, 0, 0);
    }

    public int clock(int minute) {
        need(in(minute, 0, 240));
        return home.strikes(minute);
    }

    public boolean changes(int p) {
        sleeperThere(p);
        Sleeper s = world.all.get(p);
        if (world.minute == 240) {
            return false;
        }
        return s.depth == 0 ? world.falls(p, 0) : world.noise(p, 0) > home.sleepers.get(p).light + s.depth;
    }

    public int loudest(int p) {
        sleeperThere(p);
        int found = -1;
        for (int q = world.all.size() - 1; q >= 0; q--) {
            int there = world.reaches(p, q);
            if (there > 0 && (found < 0 || there >= world.reaches(p, found))) {
                found = q;
            }
        }
        return found;
    }

    public int soon(int p) {
        sleeperThere(p);
        for (int i = 0; i <= 120; i++) {
            if (world.copy().pass(i, 0).all.get(p).depth > 0) {
                return i;
            }
        }
        return -1;
    }

    public int slept(int n) {
        need(in(n, 0, 240));
        return world.copy().pass(n, 0).slept() - world.slept();
    }

    public int sleeps(int p, int n) {
        sleeperThere(p);
        need(in(n, 0, 240));
        return world.copy().pass(n, 0).all.get(p).slept - world.all.get(p).slept;
    }

    public int most(int what) {
        need(in(what, 0, 1));
        int when = 0;
        for (int i = 1; i <= 120; i++) {
            if (world.copy().pass(i, 0).asleep() > world.copy().pass(when, 0).asleep()) {
                when = i;
            }
        }
        return what == 0 ? when : world.copy().pass(when, 0).asleep();
    }

    private int headed(int p, int h, int n) {
        World w = world.copy();
        for (int q = 0; q < w.all.size(); q++) {
            w.reads[q] = q != p && w.all.get(q).depth == 0 ? h : 0;
        }
        return w.pass(n, 0).slept() - world.slept();
    }

    public int head(int p, int h, int n) {
        sleeperThere(p);
        need(in(h, 0, 30) && in(n, 0, 240));
        return headed(p, h, n);
    }

    public int best(int p, int n) {
        sleeperThere(p);
        need(in(n, 0, 240));
        int best = 30;
        for (int h = 29; h >= 0; h--) {
            best = headed(p, h, n) >= headed(p, best, n) ? h : best;
        }
        return best;
    }

    private int[] readOn(int p, int q, int a, int b, int n) {
        World w = world.copy();
        w.reads[p] = a;
        w.reads[q] = b;
        w.pass(n, 0);
        return new int[] {w.all.get(p).slept - world.all.get(p).slept, w.all.get(q).slept - world.all.get(q).slept};
    }

    public int hurry(int p, int q, int k, int n, int what) {
        sleeperThere(p);
        sleeperThere(q);
        need(p != q && in(k, 0, 8) && in(n, 0, 120) && in(what, 0, 2));
        int[][][] all = new int[k + 1][k + 1][];
        for (int a = 0; a <= k; a++) {
            for (int b = 0; b <= k; b++) {
                all[a][b] = readOn(p, q, a, b, n);
            }
        }
        int rests = 0;
        int first = -1;
        int both = 0;
        for (int a = k; a >= 0; a--) {
            for (int b = k; b >= 0; b--) {
                boolean rest = true;
                for (int c = 0; c <= k; c++) {
                    rest &= all[c][b][0] <= all[a][b][0] && all[a][c][1] <= all[a][b][1];
                }
                if (rest) {
                    rests++;
                    first = 100 * a + b;
                    both = all[a][b][0] + all[a][b][1];
                }
            }
        }
        return new int[] {rests, first, both}[what];
    }

    public int reads(int p, int q, int own, int its, int n) {
        sleeperThere(p);
        sleeperThere(q);
        need(p != q && in(own, 0, 60) && in(its, 0, 60) && in(n, 0, 120));
        return readOn(p, q, own, its, n)[0];
    }

    public int nudges(int p, int q, int n, int what) {
        sleeperThere(p);
        sleeperThere(q);
        need(p != q && in(n, 0, 120) && in(what, 0, 1));
        int most = -1;
        int found = -1;
        for (int set = 63; set >= 0; set--) {
            World w = world.copy();
            for (int i = 0; i < n; i++) {
                if (i < 6 && (set & 1 << i) != 0) {
                    w.nudge(p, q);
                }
                w.pass(0);
            }
            int sum = w.slept() - world.slept();
            if (sum >= most) {
                most = sum;
                found = set;
            }
        }
        return what == 0 ? most : found;
    }

    public int rooms(int n, int what) {
        need(in(n, 0, 120) && in(what, 0, 1));
        int most = -1;
        int found = -1;
        for (int set = (1 << world.all.size()) - 1; set >= 0; set--) {
            World w = world.copy();
            boolean can = true;
            for (int p = 0; p < w.all.size(); p++) {
                Sleeper s = w.all.get(p);
                int room = set >> p & 1;
                can &= s.depth == 0 || s.room == room;
                s.room = room;
            }
            int sum = w.pass(n, 0).slept() - world.slept();
            if (can && sum >= most) {
                most = sum;
                found = set;
            }
        }
        return what == 0 ? most : found;
    }

    public int inTurns(int bits, int d) {
        need(bits >= 0 && bits < 1 << home.sleepers.size() && Integer.bitCount(bits) > 1 && in(d, 0, 12));
        List<Integer> listens = new ArrayList<>();
        for (int p = 0; p < home.sleepers.size(); p++) {
            if ((bits >> p & 1) == 1) {
                listens.add(Math.max(0, 8 - home.sleepers.get(p).owes / 60));
            }
        }
        return share(listens, 0, d, d, Integer.MAX_VALUE);
    }

    private static int share(List<Integer> listens, int i, int left, int d, int least) {
        if (i == listens.size() - 1) {
            return Math.min(least, left * listens.get(i) + (d - left) * 8);
        }
        int best = -1;
        for (int own = 0; own <= left; own++) {
            int sleeps = own * listens.get(i) + (d - own) * 8;
            best = Math.max(best, share(listens, i + 1, left - own, d, Math.min(least, sleeps)));
        }
        return best;
    }

    private int had(int p, int snores, int m) {
        Told t = home.sleepers.get(p);
        return loudBy(snores, t.wine, t.cold, Math.min(9, m + 1), Math.max(0, t.tired - m), t.light, m);
    }

    public int fits(int p) {
        sleeperThere(p);
        int bits = 0;
        for (int snores = 0; snores < 10; snores++) {
            int s = snores;
            bits |= lines.stream().allMatch(line -> had(p, s, line[0]) == line[1]) ? 1 << s : 0;
        }
        return bits;
    }

    public int listen(int p, int what) {
        sleeperThere(p);
        need(in(what, 0, 1));
        int bits = fits(p);
        int found = -1;
        int fewest = 99;
        for (int minute = 239; minute >= 0; minute--) {
            int m = minute;
            if (lines.stream().anyMatch(line -> line[0] == m)) {
                continue;
            }
            Map<Integer, Integer> left = new HashMap<>();
            for (int s = 0; s < 10; s++) {
                if ((bits >> s & 1) == 1) {
                    left.merge(had(p, s, m), 1, Integer::sum);
                }
            }
            int worst = left.values().stream().mapToInt(v -> v).max().orElse(0);
            if (worst <= fewest) {
                fewest = worst;
                found = m;
            }
        }
        return what == 0 ? found : fewest;
    }

    /** Every way that n breaths can go, each with its weight; above by 16^n. */
    private static BigInteger pausesByAllWays(int q, int k, int n) {
        BigInteger sum = BigInteger.ZERO;
        for (int way = 0; way < 1 << n; way++) {
            int rows = 0;
            int row = 0;
            for (int i = 0; i < n; i++) {
                row = (way >> i & 1) == 1 ? row + 1 : 0;
                rows += row == k ? 1 : 0;
            }
            int failed = Integer.bitCount(way);
            BigInteger weight = BigInteger.valueOf(q).pow(failed).multiply(BigInteger.valueOf(16 - q).pow(n - failed));
            sum = sum.add(weight.multiply(BigInteger.valueOf(rows)));
        }
        return sum;
    }

    public long pauses(int q, int k, int n, int part) {
        need(in(q, 0, 16) && in(k, 1, 4) && in(n, 0, 12) && in(part, 0, 1));
        BigInteger above = pausesByAllWays(q, k, n);
        BigInteger below = BigInteger.valueOf(16).pow(n);
        BigInteger shared = above.gcd(below);
        return (part == 0 ? above : below).divide(shared).longValueExact();
    }

    public int doctor(int k, int n) {
        need(in(k, 1, 4) && in(n, 0, 12));
        for (int q = 0; q <= 16; q++) {
            if (pausesByAllWays(q, k, n).compareTo(BigInteger.valueOf(16).pow(n)) >= 0) {
                return q;
            }
        }
        return -1;
    }

    public int wall(int n) {
        need(in(n, 0, 240));
        int most = -1;
        int found = -1;
        for (int w = 40; w >= 0; w--) {
            World trial = world.copy();
            trial.wall = w;
            int sum = trial.pass(n, 0).slept();
            if (sum >= most) {
                most = sum;
                found = w;
            }
        }
        return found;
    }

    public int plugs(int p, int m, int n) {
        sleeperThere(p);
        need(in(m, 0, 240) && in(n, 0, 240));
        int found = -1;
        for (int k = 20; k >= 0; k--) {
            World trial = world.copy();
            trial.all.get(p).plugs = k;
            found = trial.pass(n, 0).all.get(p).slept - world.all.get(p).slept >= m ? k : found;
        }
        return found;
    }

    private int[] night(int seed, int q, int n, int loud) {
        World trial = world.copy();
        long s = seed & 0xffffffffL;
        int cars = 0;
        for (int i = 0; i < n; i++) {
            s = (s * 1103515245L + 12345L) & 0xffffffffL;
            boolean car = (s / 65536 % 32768) % 16 < q;
            cars += car ? 1 : 0;
            trial.pass(car ? loud : 0);
        }
        return new int[] {trial.slept() - world.slept(), trial.woke - world.woke, cars, trial.asleep()};
    }

    public int nights(int seed, int q, int loud, int n, int what) {
        need(in(q, 0, 16) && in(loud, 0, 40) && in(n, 1, 240) && in(what, 0, 3));
        return night(seed, q, n, loud)[what];
    }

    public int span(int seed, int many, int q, int loud, int n, int what) {
        need(in(many, 1, 20) && in(q, 0, 16) && in(loud, 0, 40) && in(n, 1, 240) && in(what, 0, 2));
        List<int[]> all = new ArrayList<>();
        for (int i = 0; i < many; i++) {
            all.add(night(seed + i, q, n, loud));
        }
        if (what == 2) {
            return (int) all.stream().filter(r -> r[1] == 0).count();
        }
        var sums = all.stream().mapToInt(r -> r[0]).summaryStatistics();
        return what == 0 ? sums.getMin() : sums.getMax();
    }

    public int image() {
        if (images.size() == 3) {
            return -1;
        }
        images.add(new Image(world.copy(), new ArrayList<>(works.stream().map(World::copy).toList())));
        return images.size();
    }

    public int restore() {
        if (images.isEmpty()) {
            return -1;
        }
        Image image = images.remove(images.size() - 1);
        world = image.world();
        works = image.works();
        refusedSteps = 0;
        return images.size();
    }

    public int status(int what) {
        return in(what, 0, 1) ? refused[what] : -1;
    }

    public int count(int what) {
        return in(what, 0, 2) ? new int[] {images.size(), tape.length(), works.size()}[what] : -1;
    }
}
