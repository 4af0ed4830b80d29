/** Boundary cases of the night as it is: the second part of the terms, promises 8 to 16 and 36 to 39. */
final class EdgeNight {
    private static final String ONE = "sleeper 0 0 0 0;";
    /** One who falls asleep in minute 0 and bears much, and one who is awake and hears him. */
    private static final String TWO = "sleeper 8 20 9 0;sleeper 0 0 0 0;";

    private final Edge edge;
    private final Check check;

    EdgeNight(Edge edge) {
        this.edge = edge;
        this.check = edge.check;
    }

    void run() {
        atFirst();
        fiveSleepers();
        noiseThroughWalls();
        noiseOfClocksAndPlugs();
        refusedChangesNothing();
        steps240();
        againsAndRefusedCount();
        minuteRefused();
        tiredAtMost();
        noiseAboveLightAndDepth();
        depthAndTiredAsleep();
        sideForMinutes();
        nudges();
        nudgesRefused();
        turns();
        roomsPlugsCalls();
        undo();
        told();
        toldSix();
        sleeper();
        noSuchSleeper();
        noise();
        loud();
        would();
        clock();
        changes();
        loudest();
        image();
        restore();
        status();
        count();
    }

    private void atFirst() {
        edge.sentence(Edge.TERMS, "It is MINUTE 0 at first; all are awake (0 MINUTES so far), on their backs, TIRED and in ROOMS as told.");
        FirstAsleep x = Check.of("sleeper 60 1 2 1;sleeper 0 3 4 0;plug 1 5;owes 1 6;");
        edge.same("the minute", x.told(1), 0);
        edge.is("the first", x, 0, "60 1 2 1 0 0 0 0 0 0");
        edge.is("the second", x, 1, "0 3 4 0 0 0 0 0 5 6");
        edge.same("nobody sleeps", x.told(2), 0);
        edge.same("nobody slept", x.told(3), 0);
        edge.same("nobody woke", x.told(4), 0);
    }

    private void fiveSleepers() {
        edge.sentence(10, "Of a SLEEPER: 0 TIRED now, 1 LIGHT, 2 SNORES, 3 ROOM now, 4 DEPTH (0: awake), 5 1 on his side, 0 on his back,");
        FirstAsleep x = Check.of("sleeper 11 20 1 0;sleeper 12 19 2 1;sleeper 13 18 3 0;sleeper 14 17 4 1;sleeper 15 16 5 0;"
            + "plug 0 20;plug 1 19;plug 2 18;plug 3 17;plug 4 16;owes 0 1;owes 1 2;owes 2 3;owes 3 4;owes 4 5;");
        all("at first", x, "11 20 1 0 0 0 0 0 20 1", "12 19 2 1 0 0 0 0 19 2", "13 18 3 0 0 0 0 0 18 3",
            "14 17 4 1 0 0 0 0 17 4", "15 16 5 0 0 0 0 0 16 5");
        // the fifth falls asleep in minute 0, the fourth in minute 1, .., or later as soon as he can
        Check.law(x, 1, "minute + snores - 4");
        Check.work(x, "turn 4;room 3;plug 2 1;turn 1;minute;minute;minute;");
        all("behind 3 minutes", x, "14 20 1 0 0 0 0 3 20 1", "15 19 2 1 0 1 0 3 19 2", "15 18 3 0 1 0 0 0 1 3",
            "14 17 4 0 2 0 1 0 17 3", "13 16 5 0 3 1 2 0 16 3");
        edge.same("sleep, slept, woke", x.told(2) * 10000 + x.told(3) * 100 + x.told(4), 30300);
        Check.work(x, "call 4;nudge 0 3;room 4;turn 0;plug 4 0;minute;");
        all("behind 4 minutes", x, "15 20 1 0 0 1 0 4 20 1", "15 19 2 1 1 1 0 0 19 2", "14 18 3 0 2 0 1 0 1 2",
            "14 17 4 0 1 0 1 0 17 3", "13 16 5 1 1 0 2 0 0 3");
        edge.same("sleep, slept, woke", x.told(2) * 10000 + x.told(3) * 100 + x.told(4), 40402);
        Check.work(x, "minute;minute;minute;nudge 0 2;");
        edge.same("all sleep: none nudges", x.told(6), 1);
        all("behind 7 minutes", x, "13 20 1 0 3 1 2 0 20 0", "12 19 2 1 4 1 3 0 19 0", "11 18 3 0 5 0 4 0 1 0",
            "11 17 4 0 4 0 4 0 17 0", "10 16 5 1 4 0 5 0 0 0");
        edge.same("sleep, slept, woke", x.told(2) * 10000 + x.told(3) * 100 + x.told(4), 51802);
        int[] loudest = {3, 4, 3, 2, -1};
        for (int p = 0; p < 5; p++) {
            edge.same("the loudest for " + p, x.loudest(p), loudest[p]);
        }
        edge.same("all sleep on", x.head(4, 30, 3), 15);
        Check.work(x, "call 0;nudge 0 3;nudge 0 2;minute;");
        all("behind 8 minutes", x, "13 20 1 0 1 0 2 0 20 0", "11 19 2 1 5 1 4 0 19 0", "10 18 3 0 4 1 5 0 1 0",
            "10 17 4 0 3 1 5 0 17 0", "9 16 5 1 5 0 6 0 0 0");
        sidesOfFive(x);
    }

    /** The second lay down on his side in minute 3, the third and the fourth ahead of minute 7. */
    private void sidesOfFive(FirstAsleep x) {
        Check.work(x, "again 4[minute;];");
        edge.same("behind minute 11", x.sleeper(1, 5) * 100 + x.sleeper(2, 5) * 10 + x.sleeper(3, 5), 111);
        Check.work(x, "minute;");
        edge.same("behind minute 12", x.sleeper(1, 5) * 100 + x.sleeper(2, 5) * 10 + x.sleeper(3, 5), 11);
        Check.work(x, "minute;minute;");
        edge.same("behind minute 14", x.sleeper(1, 5) * 100 + x.sleeper(2, 5) * 10 + x.sleeper(3, 5), 11);
        Check.work(x, "minute;");
        edge.same("behind minute 15", x.sleeper(1, 5) * 100 + x.sleeper(2, 5) * 10 + x.sleeper(3, 5), 0);
        edge.same("nobody woke meanwhile", x.told(4), 3);
    }

    private void all(String what, FirstAsleep x, String... due) {
        for (int p = 0; p < due.length; p++) {
            edge.is(what + ", sleeper " + p, x, p, due[p]);
        }
    }

    private void noiseThroughWalls() {
        edge.sentence(Edge.TERMS, "NOISE of P: LOUD of each other one who sleeps on his back (from the other ROOM less W, 0 at least)");
        // 10 and 4 loud, heard from the other room: the wall, the noise
        int[][] due = {{0, 14}, {3, 8}, {4, 6}, {5, 5}, {9, 1}, {10, 0}, {11, 0}, {40, 0}};
        for (int[] d : due) {
            FirstAsleep x = Check.of("sleeper 8 20 5 0;sleeper 8 20 2 0;sleeper 0 20 9 1;wall " + d[0] + ";");
            edge.same("all are awake", x.noise(2), 0);
            Check.work(x, "minute;");
            edge.same("through a wall of " + d[0], x.noise(2), d[1]);
            edge.same("the one hears the other, not himself", x.noise(0), 4);
            Check.work(x, "room 2;");
            edge.same("in their room", x.noise(2), 14);
        }
        FirstAsleep y = Check.of("sleeper 8 20 5 0;sleeper 8 20 2 0;sleeper 0 20 9 1;wall 0;");
        Check.work(y, "turn 0;minute;");
        edge.same("one lies on his side", y.noise(2), 4);
    }

    private void noiseOfClocksAndPlugs() {
        edge.sentence(Edge.TERMS, "and what clocks strike in this MINUTE, together, less P's plugs (0 at least).");
        int[][] due = {{0, 7}, {6, 1}, {7, 0}, {8, 0}, {20, 0}};
        for (int[] d : due) {
            FirstAsleep x = Check.of(ONE + "clock 1 3;clock 1 4;clock 2 9;plug 0 " + d[0] + ";");
            edge.same("none in minute 0", x.noise(0), 0);
            Check.work(x, "minute;");
            edge.same("plugs by " + d[0], x.noise(0), d[1]);
        }
        // plugs take off once what all are together
        FirstAsleep y = Check.of("sleeper 8 20 2 0;sleeper 8 20 3 0;sleeper 0 20 0 0;plug 2 5;clock 1 1;");
        Check.work(y, "minute;");
        edge.same("4 and 6 and 1 less 5", y.noise(2), 6);
    }

    private void refused(String house, String ahead, String step) {
        FirstAsleep x = Check.of(house);
        Check.work(x, ahead);
        StringBuilder before = new StringBuilder();
        StringBuilder behind = new StringBuilder();
        for (int p = 0; p < x.told(0); p++) {
            before.append(Edge.state(x, p)).append("; ");
        }
        before.append(x.told(1)).append(' ').append(x.told(4));
        edge.same("behind '" + ahead + "': " + step, Check.work(x, step), 0);
        edge.same("it is refused", x.told(6), 1);
        for (int p = 0; p < x.told(0); p++) {
            behind.append(Edge.state(x, p)).append("; ");
        }
        behind.append(x.told(1)).append(' ').append(x.told(4));
        check.holds("'" + step + "' changes nothing: " + behind + ", was " + before, before.toString().equals(behind.toString()));
    }

    private void refusedChangesNothing() {
        edge.sentence(Edge.TERMS, "STEPS are done in order; one that can't be done is REFUSED, and changes nothing;");
        refused(TWO, "minute;", "turn 0;");
        refused(TWO, "minute;", "room 0;");
        refused(TWO, "minute;", "plug 0 1;");
        refused(TWO, "", "call 0;");
        refused(TWO, "", "nudge 1 0;");
        // what stands behind it is done, in order
        FirstAsleep x = Check.of(ONE);
        edge.same("two of four", Check.work(x, "plug 0 0;plug 0 1;plug 0 1;plug 0 0;"), 2);
        edge.same("the last one's", x.sleeper(0, 8), 0);
        edge.same("refused", x.told(6), 2);
    }

    private void steps240() {
        edge.sentence(Edge.TERMS, "240 STEPS at most are begun by one WORK");
        // 181 by the first again, 58 by the second, then the 240th, then one too many
        String text = "again 60[turn 0;turn 0;turn 0;];again 57[turn 0;];room 0;plug 0 5;";
        FirstAsleep x = Check.of(ONE);
        edge.same("237 turns and a room", Check.work(x, text), 180 + 57 + 1);
        edge.is("turned oddly, in the other room, without plugs", x, 0, "0 0 0 1 0 1 0 0 0 0");
        edge.same("the next work begins anew", Check.work(x, text), 180 + 57 + 1);
        edge.is("so once more", x, 0, "0 0 0 0 0 0 0 0 0 0");
        edge.same("one step less ahead", Check.work(x, text.replace("57", "56")), 180 + 56 + 2);
        edge.is("the plugs are the 240th", x, 0, "0 0 0 1 0 0 0 0 5 0");
        FirstAsleep y = Check.of(ONE);
        Check.law(y, 1, "0");
        edge.same("not 240 minutes in one work, for the again", Check.work(y, "again 60[minute;minute;minute;minute;];"), 239);
        edge.same("the minute", y.told(1), 239);
        edge.same("the body of the 240th is left out", Check.work(Check.of(ONE),
            "again 60[turn 0;turn 0;turn 0;];again 58[turn 0;];again 9[turn 0;];"), 180 + 58);
    }

    private void againsAndRefusedCount() {
        edge.sentence(Edge.TERMS, "(an again, too, each time it is come to; REFUSED ones, too), what would come behind is left out.");
        String text = "again 60[again 0[];again 0[];again 0[];];again 57[call 0;];room 0;room 0;";
        FirstAsleep x = Check.of(ONE);
        edge.same("181 and 58 and the 240th", Check.work(x, text), 1);
        edge.same("its room", x.sleeper(0, 3), 1);
        edge.same("refused ones", x.told(6), 57);
        edge.same("one refused one more", Check.work(x, text.replace("57", "58")), 0);
        edge.same("refused ones", x.told(6), 58);
        edge.same("an again of 0 is begun", Check.work(x, "again 60[again 0[];again 0[];again 0[];];again 57[call 0;];again 0[];room 0;"), 0);
        edge.same("an again within agains", Check.work(x, "again 60[again 3[room 0;];];"), 3 * 59 + 2);
        edge.same("what is left out is not refused", Check.work(x, "again 60[turn 0;turn 0;turn 0;turn 0;];call 0;"), 239);
        edge.same("none", x.told(6), 0);
    }

    private void minuteRefused() {
        edge.sentence(Edge.TERMS, "minute (REFUSED on MINUTE 240):");
        FirstAsleep x = Edge.at(TWO, 239);
        edge.same("on minute 239", Check.work(x, "minute;"), 1);
        edge.same("minute 240", x.told(1), 240);
        String first = Edge.state(x, 0);
        String second = Edge.state(x, 1);
        edge.same("on minute 240", Check.work(x, "minute;minute;minute;"), 0);
        edge.same("refused", x.told(6), 3);
        edge.same("minute 240 still", x.told(1), 240);
        edge.is("the first as he was", x, 0, first);
        edge.is("the second as he was", x, 1, second);
        edge.same("other steps are done there", Check.work(x, "call 0;turn 0;room 0;plug 0 1;"), 4);
        x.undo();
        x.undo();
        x.undo();
        edge.same("undone, it is minute 239", x.told(1), 239);
        edge.same("and a minute passes", Check.work(x, "minute;"), 1);
    }

    private void tiredAtMost() {
        edge.sentence(Edge.TERMS, "if FALLS tells so, he is asleep, DEPTH 1; else he is TIRED by 1 more (99 at most), and awake a MINUTE more.");
        FirstAsleep x = Check.of("sleeper 60 0 0 0;");
        Check.law(x, 1, "0");
        Check.work(x, "again 38[minute;];");
        edge.is("98", x, 0, "98 0 0 0 0 0 0 38 0 0");
        Check.work(x, "minute;");
        edge.is("99", x, 0, "99 0 0 0 0 0 0 39 0 0");
        Check.work(x, "minute;");
        edge.is("99 at most", x, 0, "99 0 0 0 0 0 0 40 0 0");
        Check.law(x, 1, "tired - 98");
        Check.work(x, "minute;");
        edge.is("asleep, as tired as he was", x, 0, "99 0 0 0 1 0 0 0 0 0");
    }

    private void noiseAboveLightAndDepth() {
        edge.sentence(Edge.TERMS, "One who sleeps: if his NOISE is above LIGHT and DEPTH together, he is awake (0 MINUTES so far, DEPTH 0, on his back);");
        // in minute 1 his depth is 1, his light 5
        int[][] due = {{0, 2}, {5, 2}, {6, 2}, {7, 0}, {40, 0}};
        for (int[] d : due) {
            FirstAsleep x = Check.of("sleeper 40 5 0 0;clock 1 " + d[0] + ";");
            Check.work(x, "turn 0;minute;");
            edge.same("changes by " + d[0], x.changes(0) ? 1 : 0, d[1] == 0 ? 1 : 0);
            Check.work(x, "minute;");
            if (d[1] == 0) {
                edge.is("awake by " + d[0], x, 0, "40 5 0 0 0 0 0 0 0 0");
            } else {
                edge.is("asleep by " + d[0], x, 0, "39 5 0 0 2 1 1 0 0 0");
            }
            edge.same("woke", x.told(4), d[1] == 0 ? 1 : 0);
        }
        // the lightest at depth 1, the least light at depth 9
        FirstAsleep y = Check.of("sleeper 8 0 0 0;sleeper 8 20 0 0;clock 1 2;clock 11 29;clock 12 30;");
        Check.work(y, "minute;minute;");
        edge.same("2 is above 0 and 1", y.sleeper(0, 4), 0);
        edge.same("not above 20 and 1", y.sleeper(1, 4), 2);
        Check.work(y, "again 10[minute;];");
        edge.same("29 is not above 20 and 9", y.sleeper(1, 4), 9);
        Check.work(y, "minute;");
        edge.same("30 is", y.sleeper(1, 4), 0);
    }

    private void depthAndTiredAsleep() {
        edge.sentence(Edge.TERMS, "else his DEPTH is 1 more (9 at most), he is TIRED by 1 less (0 at least), and has slept a MINUTE more;");
        FirstAsleep x = Check.of("sleeper 4 0 0 0;");
        String[] due = {"4 0 0 0 1 0 0 0 0 0", "3 0 0 0 2 0 1 0 0 0", "2 0 0 0 3 0 2 0 0 0", "1 0 0 0 4 0 3 0 0 0",
            "0 0 0 0 5 0 4 0 0 0", "0 0 0 0 6 0 5 0 0 0", "0 0 0 0 7 0 6 0 0 0", "0 0 0 0 8 0 7 0 0 0",
            "0 0 0 0 9 0 8 0 0 0", "0 0 0 0 9 0 9 0 0 0", "0 0 0 0 9 0 10 0 0 0"};
        for (int minute = 0; minute < due.length; minute++) {
            Check.work(x, "minute;");
            edge.is("behind minute " + minute, x, 0, due[minute]);
        }
    }

    private void sideForMinutes() {
        edge.sentence(Edge.TERMS, "if he lies on his side, and has for B MINUTES with this one, he lies on his back. Then the MINUTE is one more.");
        FirstAsleep x = Check.of("sleeper 8 20 9 0;sleeper 0 0 0 0;over 2;");
        Check.work(x, "turn 0;minute;minute;");
        edge.same("one minute", x.sleeper(0, 5), 1);
        edge.same("unheard", x.noise(1), 0);
        Check.work(x, "minute;");
        edge.same("two minutes", x.sleeper(0, 5), 0);
        edge.same("heard", x.noise(1), 18);
        Check.work(x, "again 4[minute;];");
        edge.same("and he stays so", x.sleeper(0, 5), 0);
        edge.same("the minute", x.told(1), 7);
        FirstAsleep y = Check.of("sleeper 0 0 0 0;over 1;");
        Check.law(y, 1, "0");
        Check.work(y, "turn 0;again 5[minute;];");
        edge.same("one who is awake does not turn back", y.sleeper(0, 5), 1);
    }

    private static FirstAsleep deep(int depth) {
        FirstAsleep x = Check.of("sleeper 60 20 9 0;sleeper 0 20 0 0;over 2;");
        Check.law(x, 1, "tired / 50");
        Check.work(x, "again " + depth + "[minute;];");
        return x;
    }

    private void nudges() {
        edge.sentence(Edge.TERMS, "Q lies on his side (for 0 MINUTES), DEPTH 2 less; if that is 0 or less, he is awake instead, as above (else REFUSED).");
        for (int depth = 1; depth <= 9; depth++) {
            FirstAsleep x = deep(depth);
            edge.same("depth ahead", x.sleeper(0, 4), depth);
            edge.same("nudged", Check.work(x, "nudge 1 0;"), 1);
            edge.same("depth " + depth + " less 2", x.sleeper(0, 4), Math.max(0, depth - 2));
            edge.same("on his side", x.sleeper(0, 5), depth > 2 ? 1 : 0);
            edge.same("woke", x.told(4), depth > 2 ? 0 : 1);
            edge.same("awake for", x.sleeper(0, 7), 0);
        }
        // for 0 minutes, each time
        FirstAsleep y = deep(9);
        Check.work(y, "nudge 1 0;minute;");
        edge.same("for one minute", y.sleeper(0, 5), 1);
        Check.work(y, "minute;");
        edge.same("for two", y.sleeper(0, 5), 0);
        Check.work(y, "nudge 1 0;minute;");
        edge.same("for one minute again", y.sleeper(0, 5), 1);
    }

    private void nudgesRefused() {
        edge.sentence(Edge.TERMS, "nudge: P, awake, nudges Q, who sleeps in his ROOM on his back:");
        String both = "sleeper 40 20 0 0;sleeper 40 20 0 0;sleeper 0 20 0 0;";
        refused(both, "", "nudge 2 0;");
        refused(both, "", "nudge 2 2;");
        refused(both, "minute;", "nudge 0 0;");
        refused(both, "minute;", "nudge 0 1;");
        refused(both, "minute;", "nudge 0 2;");
        refused(both, "minute;room 2;", "nudge 2 0;");
        refused(both, "turn 0;minute;", "nudge 2 0;");
        FirstAsleep x = Check.of(both);
        edge.same("and what is not", Check.work(x, "minute;nudge 2 1;"), 2);
        edge.same("he is awake, the other not", x.sleeper(1, 4) * 10 + x.sleeper(0, 4), 1);
        FirstAsleep y = Check.of("sleeper 40 20 0 1;sleeper 0 20 0 1;");
        edge.same("in room 1", Check.work(y, "minute;nudge 1 0;"), 2);
    }

    private void turns() {
        edge.sentence(Edge.TERMS, "turn: P, awake, lies on his side, or on his back again. (One who falls asleep stays as he lies; on his side then for 0 MINUTES.)");
        refused("sleeper 40 0 0 0;", "minute;", "turn 0;");
        FirstAsleep x = Check.of("sleeper 0 0 0 0;over 2;");
        int[] sides = {1, 0, 1};
        for (int side : sides) {
            edge.same("done", Check.work(x, "turn 0;"), 1);
            edge.same("side", x.sleeper(0, 5), side);
        }
        FirstAsleep second = Check.of(ONE + ONE);
        for (int side : sides) {
            edge.same("the second turns", Check.work(second, "turn 1;"), 1);
            edge.same("his side", second.sleeper(1, 5), side);
            edge.same("the first one's", second.sleeper(0, 5), 0);
        }
        Check.law(x, 1, "minute - 3");
        Check.work(x, "again 5[minute;];");
        edge.is("falls asleep as he lies", x, 0, "4 0 0 0 1 1 0 0 0 0");
        Check.work(x, "minute;");
        edge.same("on his side for one minute", x.sleeper(0, 5), 1);
        Check.work(x, "minute;");
        edge.same("for two", x.sleeper(0, 5), 0);
        // nudged for one minute, called, and asleep again on his side: it begins anew
        FirstAsleep y = Check.of("sleeper 60 20 9 0;sleeper 0 20 0 0;over 2;");
        Check.law(y, 1, "tired / 50");
        Check.work(y, "again 5[minute;];nudge 1 0;minute;call 0;turn 0;minute;minute;");
        edge.same("for one minute", y.sleeper(0, 5), 1);
        Check.work(y, "minute;");
        edge.same("for two", y.sleeper(0, 5), 0);
    }

    private void roomsPlugsCalls() {
        edge.sentence(Edge.TERMS, "room: P, awake, is in the other ROOM.");
        refused("sleeper 40 0 0 0;", "minute;", "room 0;");
        FirstAsleep x = Check.of(ONE);
        edge.same("there", Check.work(x, "room 0;") * 10 + x.sleeper(0, 3), 11);
        edge.same("and back", Check.work(x, "room 0;") * 10 + x.sleeper(0, 3), 10);
        edge.sentence(Edge.TERMS, "plug: P, awake, has plugs by K (REFUSED, if it is so).");
        refused(ONE, "", "plug 0 0;");
        refused(ONE + "plug 0 20;", "", "plug 0 20;");
        refused(ONE, "plug 0 7;", "plug 0 7;");
        refused(TWO + "plug 0 3;plug 1 4;", "", "plug 1 4;");
        FirstAsleep second = Check.of(TWO + "plug 0 3;plug 1 4;");
        edge.same("by 3, as the first", Check.work(second, "plug 1 3;"), 1);
        edge.same("by 0", Check.work(second, "plug 1 0;"), 1);
        refused("sleeper 40 0 0 0;", "minute;", "plug 0 7;");
        edge.same("by 20", Check.work(x, "plug 0 20;") * 100 + x.sleeper(0, 8), 120);
        edge.same("by 0", Check.work(x, "plug 0 0;") * 100 + x.sleeper(0, 8), 100);
        edge.sentence(Edge.TERMS, "call: P, asleep, is awake, as above (REFUSED, if he is).");
        refused(ONE, "", "call 0;");
        refused("sleeper 40 0 0 0;", "minute;call 0;", "call 0;");
        FirstAsleep y = Check.of("sleeper 40 0 0 0;");
        edge.same("one who sleeps", Check.work(y, "turn 0;minute;minute;call 0;"), 4);
        edge.is("awake for 0 minutes, on his back", y, 0, "39 0 0 0 0 0 1 0 0 0");
        edge.same("woke", y.told(4), 1);
    }

    // ---- promises 8 to 16 ----

    private void undo() {
        edge.sentence(8, "The latest WORK that was done is undone: how many are left; -1: there is none.");
        FirstAsleep x = Check.of(TWO);
        edge.same("none at first", x.undo(), -1);
        String[] texts = {"", "call 0;", "minute;", "again 9[minute;];nudge 1 0;", "call 0;turn 0;room 0;plug 0 3;"};
        String[] before = new String[texts.length];
        for (int i = 0; i < texts.length; i++) {
            before[i] = Edge.state(x, 0) + "; " + Edge.state(x, 1) + "; " + x.told(1) + " " + x.told(4);
            Check.work(x, texts[i]);
            edge.same("works", x.count(2), i + 1);
            edge.same("a faulty one is none", Check.work(x, "minute;x"), -9);
            edge.same("works", x.count(2), i + 1);
        }
        for (int i = texts.length - 1; i >= 0; i--) {
            edge.same("left", x.undo(), i);
            String now = Edge.state(x, 0) + "; " + Edge.state(x, 1) + "; " + x.told(1) + " " + x.told(4);
            check.holds("as ahead of '" + texts[i] + "': " + now + ", was " + before[i], now.equals(before[i]));
        }
        edge.same("none any more", x.undo(), -1);
        edge.same("none still", x.undo(), -1);
        edge.same("it is no refusal", x.status(0) + x.status(1), 0);
    }

    private void told() {
        edge.sentence(9, "IllegalArgumentException: another what (so below).");
        FirstAsleep x = Check.of(TWO);
        edge.bounds(x, "told", 0, 7, what -> x.told(what));
        Check.book(x, "1 1;2 1;3 1;");
        Check.work(x, "again 4[minute;];call 1;call 0;call 0;");
        int[] due = {2, 4, 0, 3, 1, 3, 2, 10};
        for (int what = 0; what < 8; what++) {
            edge.same("told(" + what + ")", x.told(what), due[what]);
        }
    }

    private void toldSix() {
        edge.sentence(9, "6 STEPS REFUSED by the latest WORK (0 ahead of any, behind undo(), restore())");
        FirstAsleep x = Check.of(ONE);
        edge.same("ahead of any", x.told(6), 0);
        Check.work(x, "call 0;call 0;");
        edge.same("two", x.told(6), 2);
        Check.work(x, "call 0;");
        edge.same("one, of the latest", x.told(6), 1);
        Check.work(x, "x");
        edge.same("a faulty text is no work", x.told(6), 1);
        x.undo();
        edge.same("behind undo", x.told(6), 0);
        x.image();
        Check.work(x, "call 0;call 0;call 0;");
        edge.same("three", x.told(6), 3);
        x.restore();
        edge.same("behind restore", x.told(6), 0);
        Check.work(x, "call 0;");
        Check.work(x, "");
        edge.same("an empty work refuses none", x.told(6), 0);
    }

    private void sleeper() {
        edge.sentence(10, "4 DEPTH (0: awake), 5 1 on his side, 0 on his back, 6 MINUTES slept, 7 MINUTES awake one behind the other (0: asleep), 8 plugs, 9 MINUTES he needs still (0 at least).");
        FirstAsleep x = Check.of("sleeper 3 0 0 0;owes 0 2;");
        edge.is("awake", x, 0, "3 0 0 0 0 0 0 0 0 2");
        Check.work(x, "turn 0;minute;");
        edge.is("awake for a minute", x, 0, "4 0 0 0 0 1 0 1 0 2");
        Check.work(x, "minute;");
        edge.is("asleep", x, 0, "4 0 0 0 1 1 0 0 0 2");
        Check.work(x, "minute;");
        edge.is("needs 1", x, 0, "3 0 0 0 2 1 1 0 0 1");
        Check.work(x, "minute;");
        edge.is("needs 0", x, 0, "2 0 0 0 3 1 2 0 0 0");
        Check.work(x, "minute;");
        edge.is("needs 0 at least", x, 0, "1 0 0 0 4 1 3 0 0 0");
        Check.work(x, "call 0;minute;");
        edge.is("awake again for a minute", x, 0, "2 0 0 0 0 0 3 1 0 0");
        // one who is awake has depth 0 in his law, too, however deep another one sleeps
        FirstAsleep y = Check.of("sleeper 8 20 9 0;sleeper 0 20 0 0;");
        Check.law(y, 1, "least[1, minute - 2 + snores] - depth");
        Check.work(y, "again 4[minute;];");
        edge.same("depth of both", y.sleeper(0, 4) * 10 + y.sleeper(1, 4), 41);
        edge.bounds(x, "sleeper: what", 0, 9, what -> x.sleeper(0, what));
    }

    private void noSuchSleeper() {
        edge.sentence(10, "NoSuchElementException: no such SLEEPER (so below, ahead of others).");
        FirstAsleep x = Check.of(TWO + ONE);
        edge.sleepers(x, "sleeper", p -> x.sleeper(p, 0));
        edge.sleepers(x, "soon", p -> x.soon(p));
        edge.sleepers(x, "sleeps", p -> x.sleeps(p, 0));
        edge.sleepers(x, "head", p -> x.head(p, 0, 0));
        edge.sleepers(x, "best", p -> x.best(p, 0));
        edge.sleepers(x, "hurry", p -> x.hurry(p, 1, 0, 0, 0));
        edge.sleepers(x, "hurry: the other", p -> x.hurry(1, p, 0, 0, 0));
        edge.sleepers(x, "reads", p -> x.reads(p, 1, 0, 0, 0));
        edge.sleepers(x, "reads: the other", p -> x.reads(1, p, 0, 0, 0));
        edge.sleepers(x, "nudges", p -> x.nudges(p, 1, 0, 0));
        edge.sleepers(x, "nudges: the other", p -> x.nudges(1, p, 0, 0));
        edge.sleepers(x, "fits", p -> x.fits(p));
        edge.sleepers(x, "listen", p -> x.listen(p, 0));
        edge.sleepers(x, "plugs", p -> x.plugs(p, 0, 0));
        FirstAsleep y = Check.of(TWO);
        int bad = Integer.MAX_VALUE;
        check.noSleeper("sleeper, and what", () -> y.sleeper(2, bad));
        check.noSleeper("sleeps, and n", () -> y.sleeps(2, bad));
        check.noSleeper("head, and h, n", () -> y.head(2, bad, bad));
        check.noSleeper("best, and n", () -> y.best(2, bad));
        check.noSleeper("hurry, and all", () -> y.hurry(2, 2, bad, bad, bad));
        check.noSleeper("hurry: the other, and all", () -> y.hurry(1, 2, bad, bad, bad));
        check.noSleeper("reads, and all", () -> y.reads(-1, -1, bad, bad, bad));
        check.noSleeper("reads: the other, and all", () -> y.reads(1, -1, bad, bad, bad));
        check.noSleeper("nudges, and all", () -> y.nudges(2, 2, bad, bad));
        check.noSleeper("nudges: the other, and all", () -> y.nudges(0, 2, bad, bad));
        check.noSleeper("listen, and what", () -> y.listen(2, bad));
        check.noSleeper("plugs, and m, n", () -> y.plugs(2, bad, bad));
        edge.same("all are counted as such", y.status(0), 12);
        edge.same("and as nothing else", y.status(1), 0);
        FirstAsleep nobody = new FirstAsleep();
        check.noSleeper("of nobody", () -> nobody.sleeper(0, 0));
    }

    private void noise() {
        edge.sentence(11, "NOISE of a SLEEPER now.");
        FirstAsleep x = Check.of(TWO + "clock 0 9;clock 59 4;");
        edge.sleepers(x, "noise", p -> x.noise(p));
        edge.same("in minute 0", x.noise(1), 9);
        Edge.goOn(x, 239);
        edge.same("in minute 239", x.noise(1), (x.sleeper(0, 4) > 0 ? 18 : 0) + 4);
        FirstAsleep y = Edge.at("sleeper 0 0 0 0;clock 0 9;clock 59 4;", 240);
        edge.same("on minute 240 a clock strikes, too", y.noise(0), 9);
    }

    private void loud() {
        edge.sentence(12, "LOUD of a SLEEPER by the LAW, were he to sleep on his back now (DEPTH as it is).");
        FirstAsleep x = Check.of("sleeper 3 5 2 0;sleeper 0 0 0 0;");
        edge.sleepers(x, "loud", p -> x.loud(p));
        Check.law(x, 0, "depth * 10 + tired");
        edge.same("awake: depth 0", x.loud(0), 3);
        Check.work(x, "turn 0;minute;minute;");
        edge.same("asleep on his side: depth 1", x.loud(0), 14);
        Check.law(x, 0, "minute * 3 + light");
        edge.same("in minute 2", x.loud(0), 11);
        Check.law(x, 0, "depth + snores * 9");
        Check.law(x, 1, "1 - depth");
        Check.work(x, "minute;minute;");
        edge.same("the second one's own depth and snores", x.loud(1), 2);
        edge.same("the first one's", x.loud(0), 21);
    }

    private void would() {
        edge.sentence(13, "LOUD by the LAW for such snores, wine, cold, depth (0 to 9 all), tired (0 to 99); LIGHT, MINUTE 0.");
        FirstAsleep x = Edge.at("sleeper 0 20 9 0;", 7);
        edge.bounds(x, "snores", 0, 9, v -> x.would(v, 0, 0, 0, 0));
        edge.bounds(x, "wine", 0, 9, v -> x.would(0, v, 0, 0, 0));
        edge.bounds(x, "cold", 0, 9, v -> x.would(0, 0, v, 0, 0));
        edge.bounds(x, "depth", 0, 9, v -> x.would(0, 0, 0, v, 0));
        edge.bounds(x, "tired", 0, 99, v -> x.would(0, 0, 0, 0, v));
        edge.same("the least", x.would(0, 0, 0, 0, 0), 0);
        edge.same("the most", x.would(9, 9, 9, 9, 99), 36);
        Check.law(x, 0, "tired - 90 + depth - 8 + cold - 7 + wine - 6 + snores - 5");
        edge.same("the most by a law", x.would(9, 9, 9, 9, 99), 9 + 1 + 2 + 3 + 4);
        Check.law(x, 0, "light + minute + 2");
        edge.same("light and minute 0", x.would(9, 9, 9, 9, 99), 2);
        x.slept(3);
        edge.same("whatever was asked ahead", x.would(9, 9, 9, 9, 99), 2);
        FirstAsleep nobody = new FirstAsleep();
        edge.same("without sleepers", nobody.would(5, 4, 3, 2, 1), 17);
    }

    private void clock() {
        edge.sentence(14, "What clocks strike in a MINUTE (0 to 240) together.");
        FirstAsleep x = Check.of("clock 0 1;clock 0 2;clock 59 4;");
        edge.bounds(x, "clock", 0, 240, minute -> x.clock(minute));
        edge.same("in 0", x.clock(0), 3);
        edge.same("in 239", x.clock(239), 4);
        edge.same("in 240", x.clock(240), 3);
        edge.same("in 238", x.clock(238), 0);
    }

    private void changes() {
        edge.sentence(15, "Whether one who is awake falls asleep, or one who sleeps wakes, in this MINUTE (false on MINUTE 240).");
        FirstAsleep x = Check.of("sleeper 0 0 0 0;sleeper 0 0 0 0;clock 0 40;clock 59 40;");
        edge.sleepers(x, "changes", p -> x.changes(p) ? 1 : 0);
        Check.law(x, 1, "minute - 237");
        Edge.goOn(x, 238);
        edge.same("falls asleep in 238", x.changes(0) ? 1 : 0, 1);
        Check.work(x, "minute;");
        edge.same("wakes in 239", x.changes(0) ? 1 : 0, 1);
        Check.work(x, "call 0;");
        edge.same("falls asleep in 239", x.changes(0) ? 1 : 0, 1);
        Check.work(x, "minute;");
        edge.same("he sleeps, the other is awake", x.sleeper(0, 4) * 10 + x.sleeper(1, 4), 10);
        edge.same("none wakes on 240", x.changes(0) ? 1 : 0, 0);
        edge.same("none falls asleep on 240", x.changes(1) ? 1 : 0, 0);
    }

    private void loudest() {
        edge.sentence(16, "The other one who is loudest in a SLEEPER's ears (ahead of plugs; clocks apart), of these the first; NONE: all are silent there.");
        FirstAsleep x = Check.of("sleeper 0 20 9 0;sleeper 8 20 4 0;sleeper 8 20 4 0;sleeper 8 20 5 1;plug 0 20;clock 1 40;wall 2;");
        edge.sleepers(x, "loudest", p -> x.loudest(p));
        edge.same("nobody sleeps", x.loudest(0), -1);
        Check.work(x, "minute;");
        edge.same("all alike: the first", x.loudest(0), 1);
        edge.same("not himself", x.loudest(1), 2);
        edge.same("nor he", x.loudest(2), 1);
        edge.same("in the other room: 8 less 2, alike", x.loudest(3), 1);
        FirstAsleep y = Check.of("sleeper 0 20 9 0;sleeper 8 20 4 0;sleeper 8 20 5 1;wall 1;");
        Check.work(y, "minute;");
        edge.same("9 through the wall", y.loudest(0), 2);
        FirstAsleep z = Check.of("sleeper 0 20 9 0;sleeper 8 20 4 1;wall 8;clock 1 40;");
        Check.work(z, "minute;");
        edge.same("8 less 8 is silent", z.loudest(0), -1);
        FirstAsleep w = Check.of("sleeper 0 20 9 0;sleeper 8 20 4 1;wall 7;");
        Check.work(w, "minute;");
        edge.same("8 less 7 is not", w.loudest(0), 1);
        FirstAsleep alone = Check.of("sleeper 8 20 9 0;");
        Check.work(alone, "minute;");
        edge.same("one alone", alone.loudest(0), -1);
        FirstAsleep first = Check.of(TWO);
        Check.work(first, "minute;");
        edge.same("the first of all", first.loudest(1), 0);
        FirstAsleep side = Check.of(TWO);
        Check.work(side, "turn 0;minute;");
        edge.same("on his side he is silent", side.loudest(1), -1);
    }

    // ---- promises 36 to 39 ----

    private void image() {
        edge.sentence(36, "An IMAGE of all that WORK changes, and of the WORKS that can be undone: how many there are; -1: there are 3.");
        FirstAsleep x = Check.of(ONE);
        for (int i = 1; i <= 3; i++) {
            edge.same("image " + i, x.image(), i);
            Check.work(x, "room 0;minute;");
        }
        String before = Edge.all(x);
        edge.same("a fourth", x.image(), -1);
        edge.same("a fifth", x.image(), -1);
        edge.stays("nothing is changed", before, x);
        edge.same("it is no refusal", x.status(0) + x.status(1), 0);
        edge.same("the third is as it was", x.restore(), 2);
        edge.same("its minute", x.told(1), 2);
        edge.same("its works", x.count(2), 2);
        edge.same("there is room again", x.image(), 3);
        edge.same("and no more", x.image(), -1);
    }

    private void restore() {
        edge.sentence(37, "All is as in the latest IMAGE, which is gone: how many are left; -1: there is none.");
        FirstAsleep x = Check.of(TWO);
        String zero = Edge.all(x);
        edge.same("none", x.restore(), -1);
        edge.stays("nothing is changed", zero, x);
        String[] due = new String[3];
        String[] steps = {"minute;", "again 5[minute;];nudge 1 0;turn 1;", "call 0;room 0;plug 1 4;"};
        for (int i = 0; i < 3; i++) {
            Check.work(x, steps[i]);
            x.image();
            due[i] = Edge.state(x, 0) + "; " + Edge.state(x, 1) + "; " + x.told(1) + " " + x.told(4) + " " + x.count(2);
        }
        Check.work(x, "again 40[minute;];");
        for (int i = 2; i >= 0; i--) {
            edge.same("left", x.restore(), i);
            String now = Edge.state(x, 0) + "; " + Edge.state(x, 1) + "; " + x.told(1) + " " + x.told(4) + " " + x.count(2);
            check.holds("image " + i + ": " + now + ", was " + due[i], now.equals(due[i]));
            edge.same("images", x.count(0), i);
        }
        edge.same("its work can be undone", x.undo(), 0);
        edge.stays("as at first", zero, x);
        edge.same("none is left", x.restore(), -1);
        edge.same("it is no refusal", x.status(0) + x.status(1), 0);
        // works that were undone are there again by the image
        FirstAsleep y = Check.of(ONE);
        Check.law(y, 1, "0");
        for (int i = 0; i < 16; i++) {
            Check.work(y, "minute;");
        }
        y.image();
        for (int i = 15; i >= 0; i--) {
            edge.same("undo", y.undo(), i);
        }
        for (int i = 0; i < 16; i++) {
            Check.work(y, "room 0;");
        }
        edge.same("restore", y.restore(), 0);
        for (int i = 15; i >= 0; i--) {
            edge.same("minute", y.told(1), i + 1);
            edge.same("undo again", y.undo(), i);
        }
    }

    private void status() {
        edge.sentence(38, "How many calls were refused: 0 NoSuchElementException, 1 IllegalArgumentException; NONE for others. (No IMAGE keeps it.)");
        FirstAsleep x = Check.of(ONE);
        for (int what : new int[] {-1, 2, 3, Integer.MIN_VALUE, Integer.MAX_VALUE}) {
            edge.same("status(" + what + ")", x.status(what), -1);
        }
        edge.same("which is no refusal", x.status(0) + x.status(1), 0);
        x.image();
        check.noSleeper("noise(1)", () -> x.noise(1));
        check.badArgument("told(8)", () -> x.told(8));
        check.badArgument("told(9)", () -> x.told(9));
        edge.same("one", x.status(0), 1);
        edge.same("two", x.status(1), 2);
        x.restore();
        edge.same("no image keeps it: 0", x.status(0), 1);
        edge.same("no image keeps it: 1", x.status(1), 2);
        Check.work(x, "call 0;");
        Check.work(x, "x");
        x.undo();
        x.undo();
        edge.same("refused steps, faults and -1 are none", x.status(0) * 10 + x.status(1), 12);
    }

    private void count() {
        edge.sentence(39, "0 IMAGES, 1 bytes of the TAPE, 2 WORKS that can be undone; NONE for others.");
        FirstAsleep x = Check.of(ONE);
        for (int what : new int[] {-1, 3, 4, Integer.MIN_VALUE, Integer.MAX_VALUE}) {
            edge.same("count(" + what + ")", x.count(what), -1);
        }
        edge.same("which is no refusal", x.status(0) + x.status(1), 0);
        edge.same("none at first", x.count(0) + x.count(1) + x.count(2), 0);
        Check.work(x, "");
        Check.work(x, "");
        x.image();
        Check.feed(x, "x");
        edge.same("images", x.count(0), 1);
        edge.same("bytes", x.count(1), 20);
        edge.same("works", x.count(2), 2);
    }
}
