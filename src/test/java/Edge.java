import java.util.function.IntToLongFunction;

/** What the tests of boundary cases share: each begins with the sentence that it is about. */
final class Edge {
    static final int TERMS = 0;

    final Check check = new Check("EdgeTest");
    private final Sentences document = new Sentences();

    void sentence(int part, String words) {
        check.about(words);
        check.holds("the document says so", document.quote(part, words));
    }

    void same(String what, long got, long want) {
        check.same(what, got, want);
    }

    /** The bounds are answered; what is next to them, and far off, is refused and counted, once each. */
    void bounds(FirstAsleep x, String what, int least, int most, IntToLongFunction call) {
        int before = x.status(1);
        call.applyAsLong(least);
        call.applyAsLong(most);
        same(what + " at its bounds is not refused", x.status(1), before);
        for (int bad : new int[] {least - 1, most + 1, Integer.MIN_VALUE, Integer.MAX_VALUE}) {
            check.badArgument(what + " of " + bad, () -> call.applyAsLong(bad));
        }
        same(what + ": four more are counted", x.status(1), before + 4);
    }

    /** The first and the last are answered; below, above and far off there is no such sleeper. */
    void sleepers(FirstAsleep x, String what, IntToLongFunction call) {
        int before = x.status(0);
        int many = x.told(0);
        call.applyAsLong(0);
        call.applyAsLong(many - 1);
        same(what + " of the first and the last is not refused", x.status(0), before);
        for (int bad : new int[] {-1, many, Integer.MIN_VALUE, Integer.MAX_VALUE}) {
            check.noSleeper(what + " of " + bad, () -> call.applyAsLong(bad));
        }
        same(what + ": four more are counted", x.status(0), before + 4);
    }

    /** Tired, light, snores, room, depth, side, slept, awake, plugs, needs still. */
    static String state(FirstAsleep x, int p) {
        StringBuilder b = new StringBuilder();
        for (int what = 0; what < 10; what++) {
            b.append(what == 0 ? "" : " ").append(x.sleeper(p, what));
        }
        return b.toString();
    }

    void is(String what, FirstAsleep x, int p, String due) {
        check.holds(what + ": " + state(x, p) + ", due is " + due, state(x, p).equals(due));
    }

    /** All that can be told of the night, the texts apart. */
    static String all(FirstAsleep x) {
        StringBuilder b = new StringBuilder();
        for (int what = 0; what < 8; what++) {
            b.append(x.told(what)).append(' ');
        }
        for (int p = 0; p < x.told(0); p++) {
            b.append(state(x, p)).append(", ").append(x.loud(p)).append(' ').append(x.noise(p)).append("; ");
        }
        for (int what = 0; what < 3; what++) {
            b.append(x.count(what)).append(' ');
        }
        return b.append(x.slept(240)).toString();
    }

    void stays(String what, String before, FirstAsleep x) {
        check.holds(what + ": " + all(x) + ", was " + before, before.equals(all(x)));
    }

    /** A house in a later minute. */
    static FirstAsleep at(String house, int minute) {
        FirstAsleep x = Check.of(house);
        goOn(x, minute);
        return x;
    }

    static void goOn(FirstAsleep x, int minutes) {
        for (int left = minutes; left > 0; left -= 180) {
            Check.work(x, "again " + Math.min(60, left) + "[minute;];again " + Math.min(60, Math.max(0, left - 60))
                + "[minute;];again " + Math.min(60, Math.max(0, left - 120)) + "[minute;];");
        }
    }

    void end() {
        check.about("each boundary case is quoted");
        for (String left : document.unquoted()) {
            check.holds(left, false);
        }
        check.end();
    }
}
