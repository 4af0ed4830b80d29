/** Promises 5, 8 to 16 and 36 to 39: work is done and undone, what is so now, images, counts. */
public final class WorkTest {
    private static final Check check = new Check("WorkTest");

    public static void main(String[] args) {
        minuteOfOneAwake();
        minuteOfOneAsleep();
        minuteWakes();
        sides();
        nudging();
        refusals();
        atMost240Steps();
        lastMinute();
        sixteenWorks();
        workBounds();
        undoing();
        toldAndSleeper();
        noiseAndLoudest();
        loudAndWould();
        clocks();
        changes();
        imagesAndRestore();
        statusAndCount();
        check.end();
    }

    private static String state(FirstAsleep x, int p) {
        StringBuilder b = new StringBuilder();
        for (int what = 0; what < 10; what++) {
            b.append(x.sleeper(p, what)).append(' ');
        }
        return b.toString().trim();
    }

    /** Due: tired, light, snores, room, depth, side, slept, awake, plugs, needs still. */
    private static void is(String what, FirstAsleep x, int p, String due) {
        String got = state(x, p);
        if (!got.equals(due)) {
            System.out.println(what + ": " + got + ", due is " + due);
        }
        check.holds(what, got.equals(due));
    }

    private static void minuteOfOneAwake() {
        FirstAsleep x = Check.of("sleeper 2 3 4 1;plug 0 5;owes 0 7;");
        is("at first", x, 0, "2 3 4 1 0 0 0 0 5 7");
        check.same("a minute", Check.work(x, "minute;"), 1);
        is("tired by 1 more", x, 0, "3 3 4 1 0 0 0 1 5 7");
        Check.work(x, "minute;");
        is("tired by 2 more", x, 0, "4 3 4 1 0 0 0 2 5 7");
        Check.work(x, "minute;");
        is("asleep", x, 0, "4 3 4 1 1 0 0 0 5 7");
        check.same("the minute", x.told(1), 3);
        FirstAsleep y = Check.of("sleeper 60 0 0 0;");
        Check.law(y, 1, "0");
        Check.work(y, "again 45[minute;];");
        is("tired by 99 at most", y, 0, "99 0 0 0 0 0 0 45 0 0");
    }

    private static void minuteOfOneAsleep() {
        FirstAsleep two = Check.of("sleeper 0 0 0 0;sleeper 9 0 0 0;owes 1 3;");
        Check.work(two, "minute;minute;minute;");
        is("what the second needs still", two, 1, "7 0 0 0 3 0 2 0 0 1");
        Check.work(two, "call 1;nudge 0 1;turn 1;room 1;plug 1 2;");
        is("awake, on his side, elsewhere", two, 1, "7 0 0 1 0 1 2 0 2 1");
        Check.law(two, 1, "0");
        Check.work(two, "minute;minute;");
        is("the second is awake for two minutes", two, 1, "9 0 0 1 0 1 2 2 2 1");
        is("the first for all five", two, 0, "5 0 0 0 0 0 0 5 0 0");
        FirstAsleep x = Check.of("sleeper 5 0 0 0;owes 0 4;");
        Check.work(x, "minute;minute;");
        is("slept a minute", x, 0, "4 0 0 0 2 0 1 0 0 3");
        Check.work(x, "again 7[minute;];");
        is("deepest, tired by 0 at least, needs 0 at least", x, 0, "0 0 0 0 9 0 8 0 0 0");
        Check.work(x, "minute;");
        is("deep on", x, 0, "0 0 0 0 9 0 9 0 0 0");
    }

    private static void minuteWakes() {
        // 18 at the other one's ears: above 16 and 1, not above 17 and 1
        FirstAsleep x = Check.of("sleeper 40 20 9 0;sleeper 40 16 0 0;sleeper 40 17 0 0;");
        Check.work(x, "minute;minute;");
        is("he snores on", x, 0, "39 20 9 0 2 0 1 0 0 0");
        is("he is awake", x, 1, "40 16 0 0 0 0 0 0 0 0");
        is("he bears it", x, 2, "39 17 0 0 2 0 1 0 0 0");
        check.same("woke", x.told(4), 1);
        check.same("how many sleep", x.told(2), 2);
        check.same("slept by all", x.told(3), 2);
        // depth helps: 12 strikes at minute 5, light 4: depth 5 is too little, depth 8 is enough
        FirstAsleep y = Check.of("sleeper 40 4 0 0;sleeper 40 8 0 0;clock 5 12;");
        Check.work(y, "again 6[minute;];");
        check.same("light and depth together too little", y.sleeper(0, 4), 0);
        check.same("light and depth together enough", y.sleeper(1, 4), 6);
        // both at once: each hears how the other was at the beginning of the minute
        FirstAsleep z = Check.of("sleeper 40 0 9 0;sleeper 40 0 9 0;");
        Check.work(z, "minute;minute;");
        check.same("both woke", z.told(4), 2);
    }

    private static void sides() {
        FirstAsleep x = Check.of("sleeper 40 0 9 0;sleeper 0 0 0 0;over 3;");
        check.same("turn", Check.work(x, "turn 0;"), 1);
        check.same("on his side", x.sleeper(0, 5), 1);
        Check.work(x, "turn 0;");
        check.same("on his back again", x.sleeper(0, 5), 0);
        Check.work(x, "turn 0;minute;");
        check.same("asleep on his side", x.sleeper(0, 5), 1);
        check.same("no noise from the side", x.noise(1), 0);
        Check.work(x, "minute;minute;");
        check.same("two minutes on", x.sleeper(0, 5), 1);
        Check.work(x, "minute;");
        check.same("back behind three minutes of sleep", x.sleeper(0, 5), 0);
        check.same("noise from the back", x.noise(1), 18);
        FirstAsleep y = Check.of("sleeper 40 0 0 0;");
        Check.work(y, "turn 0;again 9[minute;];");
        check.same("nine without: not yet", y.sleeper(0, 5), 1);
        Check.work(y, "minute;");
        check.same("nine without", y.sleeper(0, 5), 0);
        FirstAsleep z = Check.of("sleeper 40 0 0 0;over 2;");
        Check.work(z, "turn 0;minute;minute;call 0;");
        check.same("one who wakes is on his back", z.sleeper(0, 5), 0);
        Check.work(z, "turn 0;minute;minute;");
        check.same("on his side for 0 minutes again", z.sleeper(0, 5), 1);
    }

    private static void nudging() {
        FirstAsleep x = Check.of("sleeper 0 0 0 0;sleeper 40 0 9 0;over 1;");
        Check.law(x, 1, "tired / 40");
        Check.work(x, "again 4[minute;];");
        check.same("depth ahead", x.sleeper(1, 4), 4);
        check.same("nudge", Check.work(x, "nudge 0 1;"), 1);
        check.same("on his side", x.sleeper(1, 5), 1);
        check.same("depth 2 less", x.sleeper(1, 4), 2);
        check.same("nobody woke", x.told(4), 0);
        check.same("nudged on his side", Check.work(x, "nudge 0 1;"), 0);
        Check.work(x, "minute;");
        check.same("back", x.sleeper(1, 5), 0);
        check.same("depth", x.sleeper(1, 4), 3);
        Check.work(x, "nudge 0 1;");
        check.same("depth 1 is left", x.sleeper(1, 4), 1);
        FirstAsleep y = Check.of("sleeper 0 0 0 0;sleeper 40 0 9 0;");
        Check.work(y, "minute;minute;nudge 0 1;");
        is("depth 2: awake instead", y, 1, "39 0 9 0 0 0 1 0 0 0");
        check.same("woke", y.told(4), 1);
        FirstAsleep z = Check.of("sleeper 0 0 0 0;sleeper 40 0 9 0;");
        Check.work(z, "minute;nudge 0 1;");
        check.same("depth 1: awake instead", z.sleeper(1, 4), 0);
    }

    private static void refused(String house, String ahead, String step) {
        FirstAsleep x = Check.of(house);
        Check.work(x, ahead);
        String before = state(x, 0) + state(x, 1);
        check.same("refused: " + ahead + " then " + step, Check.work(x, step), 0);
        check.same("refused by it", x.told(6), 1);
        check.holds("it changes nothing", before.equals(state(x, 0) + state(x, 1)));
    }

    private static void refusals() {
        String house = "sleeper 40 20 0 0;sleeper 0 0 0 0;plug 1 3;";
        refused(house, "minute;", "nudge 0 0;");
        refused(house, "minute;", "nudge 0 1;");
        refused(house, "minute;", "nudge 1 1;");
        refused(house, "minute;room 1;", "nudge 1 0;");
        refused(house, "turn 0;minute;", "nudge 1 0;");
        refused(house, "", "nudge 1 0;");
        refused(house, "minute;", "turn 0;");
        refused(house, "minute;", "room 0;");
        refused(house, "minute;", "plug 0 4;");
        refused(house, "", "plug 1 3;");
        refused(house, "", "plug 0 0;");
        refused(house, "", "call 0;");
        FirstAsleep x = Check.of(house);
        check.same("done", Check.work(x, "room 1;plug 1 20;plug 1 20;call 1;turn 1;"), 3);
        check.same("refused", x.told(6), 2);
        is("as told", x, 1, "0 0 0 1 0 1 0 0 20 0");
        check.same("back in room 0", Check.work(x, "room 1;"), 1);
        check.same("room", x.sleeper(1, 3), 0);
        Check.work(x, "");
        check.same("an empty work refuses none", x.told(6), 0);
    }

    private static void atMost240Steps() {
        FirstAsleep x = Check.of("sleeper 0 0 0 0;");
        // 1 and three times 61 are 184; of the fourth round the again and 55 turns
        check.same("240 begun", Check.work(x, "again 60[again 60[turn 0;];];"), 235);
        check.same("an odd number of turns", x.sleeper(0, 5), 1);
        check.same("refused ones count", Check.work(x, "again 60[call 0;again 3[call 0;];];turn 0;"), 0);
        check.same("refused", x.told(6), 239 - 48);
        check.same("what comes behind is left out", x.sleeper(0, 5), 1);
        check.same("empty agains end", Check.work(x, "again 60[again 60[again 60[again 60[];];];];turn 0;"), 0);
        check.same("and take up steps", x.sleeper(0, 5), 1);
        check.same("an again of 0", Check.work(x, "again 0[turn 0;];turn 0;"), 1);
        check.same("it is not done", x.sleeper(0, 5), 0);
        check.same("239 steps and the last one", Check.work(x, "again 58[again 3[turn 0;];];again 6[turn 0;];room 0;turn 0;"), 174 + 6);
        check.same("the 241st is left out", x.sleeper(0, 3), 0);
        check.same("just the 240th is done", Check.work(x, "again 59[again 3[];turn 0;turn 0;turn 0;];turn 0;room 0;turn 0;turn 0;"), 177 + 1 + 1 + 1);
    }

    private static void lastMinute() {
        FirstAsleep x = Check.of("sleeper 0 0 0 0;");
        Check.law(x, 1, "0");
        for (int i = 1; i <= 4; i++) {
            check.same("sixty minutes", Check.work(x, "again 60[minute;];"), 60);
        }
        check.same("minute 240", x.told(1), 240);
        check.same("no more", Check.work(x, "minute;minute;turn 0;"), 1);
        check.same("refused", x.told(6), 2);
        check.same("minute 240 still", x.told(1), 240);
        check.same("tired as it was", x.sleeper(0, 7), 240);
    }

    private static void sixteenWorks() {
        FirstAsleep x = Check.of("sleeper 0 0 0 0;");
        Check.law(x, 1, "0");
        for (int i = 1; i <= 16; i++) {
            check.same("a work", Check.work(x, "minute;call 0;"), 1);
            check.same("works", x.count(2), i);
        }
        Check.law(x, 0, "x");
        check.same("the 17th", Check.work(x, "x"), -20);
        check.same("there is no fault", x.fault(), -1);
        check.same("the tape is empty", x.count(1), 0);
        check.same("nothing is done", x.told(1), 16);
        check.same("refused by the latest work", x.told(6), 1);
        Check.feed(x, "minute;");
        check.badArgument("too many bytes", () -> x.work(21));
        check.same("the tape stays", x.count(1), 20);
        check.same("undo", x.undo(), 15);
        check.same("now it can be done", x.work(7), 1);
        for (int i = 15; i >= 0; i--) {
            check.same("undo", x.undo(), i);
            check.same("minute", x.told(1), i);
        }
        check.same("none is left", x.undo(), -1);
    }

    private static void workBounds() {
        FirstAsleep x = Check.of("sleeper 0 0 0 0;");
        check.same("a work of 150 bytes", Check.work(x, "turn 0;" + " ".repeat(143)), 1);
        Check.feed(x, " ".repeat(151));
        check.badArgument("a work of 151 bytes", () -> x.work(151));
        check.badArgument("work(-1)", () -> x.work(-1));
        check.same("the tape stays", x.count(1), 160);
        check.same("works", x.count(2), 1);
    }

    private static void undoing() {
        FirstAsleep x = Check.of("sleeper 40 0 9 0;sleeper 0 0 0 1;");
        Check.law(x, 0, "7");
        String zero = state(x, 0) + state(x, 1);
        Check.work(x, "turn 0;room 1;plug 1 9;minute;call 1;");
        String one = state(x, 0) + state(x, 1);
        check.same("refused", x.told(6), 1);
        Check.work(x, "call 0;again 9[minute;];call 0;");
        Check.law(x, 0, "8");
        Check.book(x, "1 1;");
        check.same("undo", x.undo(), 1);
        check.holds("as behind the first", one.equals(state(x, 0) + state(x, 1)));
        check.same("minute", x.told(1), 1);
        check.same("woke", x.told(4), 0);
        check.same("refused behind undo", x.told(6), 0);
        check.same("a law is no work", x.loud(0), 8);
        check.same("a book is no work", x.told(5), 1);
        check.same("undo", x.undo(), 0);
        check.holds("as at first", zero.equals(state(x, 0) + state(x, 1)));
        check.same("undo", x.undo(), -1);
    }

    private static void toldAndSleeper() {
        FirstAsleep x = Check.of("sleeper 40 0 0 0;sleeper 40 0 0 0;sleeper 0 0 0 0;wall 12;");
        Check.law(x, 1, "tired / 20");
        check.badArgument("told(-1)", () -> x.told(-1));
        check.badArgument("told(8)", () -> x.told(8));
        check.badArgument("sleeper(0, -1)", () -> x.sleeper(0, -1));
        check.badArgument("sleeper(0, 10)", () -> x.sleeper(0, 10));
        check.noSleeper("sleeper(3, 0)", () -> x.sleeper(3, 0));
        check.noSleeper("sleeper(-1, 99)", () -> x.sleeper(-1, 99));
        Check.work(x, "again 5[minute;];call 0;call 2;");
        Check.book(x, "3 3;");
        int[] due = {3, 5, 1, 8, 1, 1, 1, 12};
        for (int what = 0; what < due.length; what++) {
            check.same("told(" + what + ")", x.told(what), due[what]);
        }
    }

    private static void noiseAndLoudest() {
        FirstAsleep x = Check.of("sleeper 60 20 2 0;sleeper 60 20 6 0;sleeper 60 20 9 1;sleeper 0 0 0 0;wall 7;plug 3 6;clock 1 5;");
        check.same("all are silent", x.loudest(3), -1);
        check.same("no noise", x.noise(3), 0);
        Check.work(x, "minute;");
        check.same("4 and 12 and 18 less 7 and 5 less 6", x.noise(3), 4 + 12 + 11 + 5 - 6);
        check.same("in the other room", x.noise(2), 0 + 5 + 5);
        check.same("of his own he hears nothing", x.noise(1), 4 + 11 + 5);
        check.same("the loudest there", x.loudest(3), 1);
        check.same("the loudest to himself is another", x.loudest(1), 2);
        check.same("the loudest in the other room", x.loudest(2), 1);
        Check.work(x, "room 3;");
        check.same("heard there", x.loudest(3), 2);
        check.same("0 at least through a wall", x.noise(3), 0 + 5 + 18 + 5 - 6);
        Check.work(x, "plug 3 20;call 2;");
        check.same("0 at least behind plugs", x.noise(3), 0);
        check.same("the first of like ones", likeOnes().loudest(2), 0);
        check.same("a wall of 12 leaves nothing", silentByWall().loudest(1), -1);
        check.noSleeper("noise(4)", () -> x.noise(4));
        check.noSleeper("loudest(-1)", () -> x.loudest(-1));
    }

    private static FirstAsleep likeOnes() {
        FirstAsleep x = Check.of("sleeper 60 20 5 0;sleeper 60 20 5 0;sleeper 0 0 0 0;");
        Check.work(x, "minute;");
        return x;
    }

    private static FirstAsleep silentByWall() {
        FirstAsleep x = Check.of("sleeper 60 20 6 0;sleeper 0 0 0 1;wall 12;");
        Check.work(x, "minute;");
        return x;
    }

    private static void loudAndWould() {
        FirstAsleep x = Check.of("sleeper 9 5 4 0;wine 0 2;cold 0 1;");
        check.same("loud without a law", x.loud(0), 11);
        check.same("would without a law", x.would(9, 8, 7, 0, 0), 33);
        Check.law(x, 0, "depth * 3 + minute + tired + light + awake*9 + heard*9");
        check.same("loud by the law", x.loud(0), 14);
        Check.work(x, "turn 0;minute;minute;minute;");
        check.same("asleep on his side, were he on his back", x.loud(0), 9 + 3 + 7 + 5);
        check.same("would: light and minute 0", x.would(0, 0, 0, 2, 5), 11);
        check.same("would at its most", x.would(9, 9, 9, 9, 99), 40);
        FirstAsleep y = Check.of("sleeper 0 0 4 0;");
        Check.law(y, 0, "awake+heard+2");
        Check.work(y, "minute;minute;");
        check.same("awake is 0 for LOUD", y.loud(0), 2);
        check.noSleeper("loud(1)", () -> x.loud(1));
        int[][] bad = {{-1, 0, 0, 0, 0}, {10, 0, 0, 0, 0}, {0, -1, 0, 0, 0}, {0, 10, 0, 0, 0}, {0, 0, -1, 0, 0},
            {0, 0, 10, 0, 0}, {0, 0, 0, -1, 0}, {0, 0, 0, 10, 0}, {0, 0, 0, 0, -1}, {0, 0, 0, 0, 100}};
        for (int[] b : bad) {
            check.badArgument("would", () -> x.would(b[0], b[1], b[2], b[3], b[4]));
        }
    }

    private static void clocks() {
        FirstAsleep x = Check.of("clock 0 7;clock 59 8;");
        check.same("clock(0)", x.clock(0), 7);
        check.same("clock(240)", x.clock(240), 7);
        check.same("clock(119)", x.clock(119), 8);
        check.same("clock(1)", x.clock(1), 0);
        check.badArgument("clock(-1)", () -> x.clock(-1));
        check.badArgument("clock(241)", () -> x.clock(241));
    }

    private static void changes() {
        FirstAsleep x = Check.of("sleeper 40 0 9 0;sleeper 40 0 0 0;sleeper 3 0 0 0;");
        check.holds("he falls asleep", x.changes(0));
        check.holds("he does not", !x.changes(2));
        Check.work(x, "minute;");
        check.holds("he sleeps on", !x.changes(0));
        check.holds("he wakes", x.changes(1));
        check.same("nothing is changed", x.told(1), 1);
        Check.law(x, 1, "1");
        check.holds("by the law", x.changes(2));
        Check.work(x, "call 0;");
        for (int i = 0; i < 4; i++) {
            Check.work(x, "again 60[minute;];");
        }
        check.same("minute 240", x.told(1), 240);
        for (int p = 0; p < 3; p++) {
            int q = p;
            Check.work(x, "call " + p + ";");
            check.holds("not on minute 240", !x.changes(q));
        }
        check.noSleeper("changes(3)", () -> x.changes(3) ? 1 : 0);
    }

    private static void imagesAndRestore() {
        FirstAsleep x = Check.of("sleeper 0 0 0 0;");
        check.same("none to restore", x.restore(), -1);
        check.same("image of minute 0", x.image(), 1);
        Check.work(x, "minute;call 0;");
        check.same("image of minute 1", x.image(), 2);
        Check.work(x, "minute;call 0;");
        check.same("image of minute 2", x.image(), 3);
        check.same("a fourth", x.image(), -1);
        check.same("images", x.count(0), 3);
        x.undo();
        x.undo();
        check.same("minute 0", x.told(1), 0);
        Check.law(x, 0, "31");
        Check.book(x, "1 1;2 2;");
        check.same("restore minute 2", x.restore(), 2);
        check.same("minute 2", x.told(1), 2);
        check.same("works", x.count(2), 2);
        check.same("a law stays", x.loud(0), 31);
        check.same("a book stays", x.told(5), 2);
        check.same("undo as it was there", x.undo(), 1);
        check.same("minute 1", x.told(1), 1);
        Check.work(x, "call 0;");
        check.same("refused", x.told(6), 1);
        check.same("restore minute 1", x.restore(), 1);
        check.same("refused behind restore", x.told(6), 0);
        check.same("works", x.count(2), 1);
        check.same("undo", x.undo(), 0);
        check.same("restore minute 0", x.restore(), 0);
        check.same("works", x.count(2), 0);
        check.same("minute 0", x.told(1), 0);
        Check.work(x, "call 0;");
        check.same("none is left", x.restore(), -1);
        check.same("and nothing changed", x.told(6), 1);
        FirstAsleep y = Check.of("sleeper 0 0 0 0;");
        Check.work(y, "room 0;");
        y.image();
        y.undo();
        Check.work(y, "minute;");
        Check.work(y, "minute;");
        y.undo();
        y.undo();
        Check.work(y, "turn 0;minute;");
        Check.work(y, "minute;");
        y.restore();
        is("restored", y, 0, "0 0 0 1 0 0 0 0 0 0");
        y.undo();
        is("undone as it was in the image", y, 0, "0 0 0 0 0 0 0 0 0 0");
        FirstAsleep z = Check.of("sleeper 0 0 0 0;");
        Check.work(z, "minute;");
        Check.work(z, "minute;");
        z.image();
        z.undo();
        z.undo();
        Check.work(z, "turn 0;");
        Check.work(z, "turn 0;");
        z.restore();
        z.undo();
        is("the second of the image's works", z, 0, "1 0 0 0 0 0 0 1 0 0");
        z.undo();
        is("the first of the image's works", z, 0, "0 0 0 0 0 0 0 0 0 0");
        Check.work(z, "turn 0;");
        z.image();
        z.undo();
        Check.work(z, "room 0;");
        Check.work(z, "plug 0 3;");
        z.restore();
        is("restored again", z, 0, "0 0 0 0 0 1 0 0 0 0");
    }

    private static void statusAndCount() {
        FirstAsleep x = Check.of("sleeper 0 0 0 0;");
        check.same("status(0)", x.status(0), 0);
        check.same("status(1)", x.status(1), 0);
        x.image();
        check.noSleeper("soon(9)", () -> x.soon(9));
        check.noSleeper("hurry(0, 1, 99, 99, 99)", () -> x.hurry(0, 1, 99, 99, 99));
        check.badArgument("hurry(0, 0, 0, 0, 0)", () -> x.hurry(0, 0, 0, 0, 0));
        check.same("status(0)", x.status(0), 2);
        check.same("status(1)", x.status(1), 1);
        x.restore();
        check.same("no image keeps it", x.status(0), 2);
        Check.house(x, "");
        check.same("no house, either", x.status(0), 2);
        check.same("status(2)", x.status(2), -1);
        check.same("status(-1)", x.status(-1), -1);
        check.same("count(3)", x.count(3), -1);
        check.same("count(-1)", x.count(-1), -1);
        check.same("they are no refusals", x.status(1), 1);
        Check.feed(x, "0");
        check.same("count(1)", x.count(1), 20);
    }
}
