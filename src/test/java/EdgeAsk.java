/** Boundary cases of what is asked: the third part of the terms, promises 17 to 35. */
final class EdgeAsk {
    private static final String ONE = "sleeper 0 0 0 0;";
    /** Two who bear everything and are silent. */
    private static final String QUIET = "sleeper 40 20 0 0;sleeper 40 20 0 0;";
    /** Two who wake one another. */
    private static final String PAIR = "sleeper 40 0 9 0;sleeper 40 0 9 0;";

    private final Edge edge;
    private final Check check;

    EdgeAsk(Edge edge) {
        this.edge = edge;
        this.check = edge.check;
    }

    void run() {
        nothingStaysChanged();
        asFarAsThereAreMinutes();
        soon();
        slept();
        head();
        best();
        hurry();
        hurryWithoutRests();
        nudges();
        rooms();
        turns();
        fits();
        listen();
        pauses();
        doctor();
        draws();
        cars();
        carsBehindTheLastMinute();
        boundsOfMinutes();
        most();
        boundsOfHeads();
        boundsOfHurry();
        reads();
        boundsOfNudges();
        boundsOfRooms();
        boundsOfTurns();
        boundsOfListen();
        boundsOfPauses();
        boundsOfDoctor();
        walls();
        plugs();
        boundsOfNights();
        spans();
    }

    private static FirstAsleep with(String house, String loud, String falls) {
        FirstAsleep x = Check.of(house);
        if (!loud.isEmpty()) {
            Check.law(x, 0, loud);
        }
        if (!falls.isEmpty()) {
            Check.law(x, 1, falls);
        }
        return x;
    }

    // ---- the terms ----

    private void nothingStaysChanged() {
        edge.sentence(Edge.TERMS, "Asked, nothing stays changed;");
        FirstAsleep x = Check.of("sleeper 12 3 5 0;sleeper 20 2 0 0;sleeper 4 9 9 1;plug 2 3;clock 3 6;clock 20 9;owes 0 120;");
        Check.book(x, "1 1;");
        Check.work(x, "again 7[minute;];call 0;turn 0;call 1;call 0;");
        x.image();
        String before = Edge.all(x);
        String[] names = {"soon", "slept", "sleeps", "most", "head", "best", "hurry", "reads", "nudges", "rooms",
            "inTurns", "fits", "listen", "pauses", "doctor", "wall", "plugs", "nights", "span", "noise", "loud", "would",
            "clock", "changes", "loudest"};
        for (int i = 0; i < names.length; i++) {
            ask(x, i);
            edge.stays("behind " + names[i], before, x);
        }
        FirstAsleep y = Check.of(QUIET);
        y.reads(0, 1, 60, 60, 120);
        edge.same("nobody reads on", y.slept(10), 18);
        y.head(1, 30, 120);
        edge.same("nobody is kept awake: the first", y.soon(0), 1);
        y.head(0, 30, 120);
        edge.same("nobody is kept awake: the second", y.soon(1), 1);
    }

    private static long ask(FirstAsleep x, int which) {
        switch (which) {
            case 0: return x.soon(1);
            case 1: return x.slept(240);
            case 2: return x.sleeps(2, 240);
            case 3: return x.most(0);
            case 4: return x.head(0, 30, 240);
            case 5: return x.best(1, 240);
            case 6: return x.hurry(0, 1, 8, 120, 2);
            case 7: return x.reads(0, 1, 60, 60, 120);
            case 8: return x.nudges(1, 2, 120, 1);
            case 9: return x.rooms(120, 1);
            case 10: return x.inTurns(7, 12);
            case 11: return x.fits(0);
            case 12: return x.listen(0, 0);
            case 13: return x.pauses(15, 4, 12, 0);
            case 14: return x.doctor(4, 12);
            case 15: return x.wall(240);
            case 16: return x.plugs(0, 240, 240);
            case 17: return x.nights(1, 8, 40, 240, 0);
            case 18: return x.span(1, 20, 8, 40, 240, 0);
            case 19: return x.noise(0);
            case 20: return x.loud(0);
            case 21: return x.would(9, 9, 9, 9, 99);
            case 22: return x.clock(240);
            case 23: return x.changes(0) ? 1 : 0;
            default: return x.loudest(0);
        }
    }

    private void asFarAsThereAreMinutes() {
        edge.sentence(Edge.TERMS, "MINUTES go by as far as there are any (to 240).");
        FirstAsleep x = Edge.at(QUIET, 238);
        int[][] due = {{0, 0}, {1, 2}, {2, 4}, {3, 4}, {120, 4}, {240, 4}};
        for (int[] d : due) {
            edge.same("slept(" + d[0] + ")", x.slept(d[0]), d[1]);
            edge.same("sleeps(1, " + d[0] + ")", x.sleeps(1, d[0]), d[1] / 2);
            edge.same("head(0, 30, " + d[0] + ")", x.head(0, 30, d[0]), d[1]);
        }
        edge.same("reads", x.reads(0, 1, 0, 0, 120), 2);
        edge.same("hurry", x.hurry(0, 1, 0, 120, 2), 4);
        edge.same("nudges", x.nudges(0, 1, 120, 0), 4);
        edge.same("rooms", x.rooms(120, 0), 4);
        edge.same("plugs for two minutes", x.plugs(0, 2, 240), 0);
        edge.same("plugs for three", x.plugs(0, 3, 240), -1);
        Check.work(x, "minute;minute;call 1;");
        Check.law(x, 1, "1");
        edge.same("on minute 240: slept", x.slept(240), 0);
        edge.same("on minute 240: sleeps", x.sleeps(0, 240), 0);
        edge.same("on minute 240: soon of one asleep", x.soon(0), 0);
        edge.same("on minute 240: soon of one awake", x.soon(1), -1);
        edge.same("on minute 240: most, when", x.most(0), 0);
        edge.same("on minute 240: most, how many", x.most(1), 1);
        edge.same("on minute 240: best", x.best(1, 240), 0);
        edge.same("on minute 240: all rest", x.hurry(0, 1, 8, 120, 0), 81);
        edge.same("on minute 240: nudges", x.nudges(1, 0, 120, 1), 0);
        edge.same("on minute 240: rooms", x.rooms(120, 1), 0);
        edge.same("on minute 240: wall", x.wall(240), 0);
        edge.same("on minute 240: plugs", x.plugs(0, 1, 240), -1);
        edge.same("on minute 240: plugs for nothing", x.plugs(0, 0, 240), 0);
    }

    private void soon() {
        edge.sentence(Edge.TERMS, "SOON of P: in how many MINUTES he sleeps first (0: he does), nothing being done, of the next 120; NONE.");
        // falls asleep in minute m: sleeps first in m + 1 minutes
        int[][] due = {{0, 1}, {1, 2}, {118, 119}, {119, 120}, {120, -1}, {239, -1}};
        for (int[] d : due) {
            FirstAsleep x = with(ONE, "", "minute + 1 - " + d[0]);
            edge.same("asleep in minute " + d[0], x.soon(0), d[1]);
        }
        FirstAsleep x = with(ONE, "", "1");
        Check.work(x, "minute;");
        edge.same("he does", x.soon(0), 0);
        FirstAsleep y = Edge.at(ONE, 0);
        Check.law(y, 1, "minute / 239");
        Edge.goOn(y, 119);
        edge.same("minute 239, from 119 on", y.soon(0), -1);
        Check.work(y, "minute;");
        edge.same("minute 239, from 120 on", y.soon(0), 120);
        Edge.goOn(y, 119);
        edge.same("minute 239, from 239 on", y.soon(0), 1);
        // one who sleeps for a while, and again later: the first time counts
        FirstAsleep z = Check.of("sleeper 40 0 0 0;clock 1 40;");
        edge.same("the first of several", z.soon(0), 1);
        edge.same("just tired enough, hearing nothing", Check.of("sleeper 4 0 0 0;").soon(0), 1);
        edge.same("not tired enough by one", Check.of("sleeper 3 0 0 0;").soon(0), 2);
    }

    private void slept() {
        edge.sentence(Edge.TERMS, "SLEPT by n: MINUTES that all sleep together in the next n.");
        FirstAsleep x = Check.of(QUIET + "sleeper 0 20 0 1;");
        // two fall asleep in minute 0, the third in minute 4
        int[][] due = {{0, 0}, {1, 0}, {2, 2}, {5, 8}, {6, 11}, {240, 239 * 2 + 235}};
        for (int[] d : due) {
            edge.same("slept(" + d[0] + ")", x.slept(d[0]), d[1]);
        }
        edge.same("of nobody", new FirstAsleep().slept(240), 0);
        Check.work(x, "again 6[minute;];");
        edge.same("what was slept ahead does not count", x.slept(1), 3);
    }

    private void head() {
        edge.sentence(Edge.TERMS, "if all others who are awake now do not fall asleep in the first h MINUTES (they are TIRED by 1 more each MINUTE, awake on);");
        // each falls asleep when he was awake for 5 minutes, or has to be longer
        FirstAsleep x = with("sleeper 0 20 0 0;sleeper 0 20 0 0;", "", "awake - 4");
        int[][] due = {{0, 68}, {1, 68}, {5, 68}, {6, 67}, {7, 66}, {30, 34 + 9}};
        for (int[] d : due) {
            edge.same("awake on, by " + d[0], x.head(0, d[0], 40), d[1]);
        }
        FirstAsleep y = with("sleeper 0 20 0 0;sleeper 0 20 0 0;", "", "tired - 9");
        edge.same("tired by 10, by 10", y.head(1, 10, 20), 18);
        edge.same("tired by 10, by 11", y.head(1, 11, 20), 17);
        FirstAsleep z = Check.of(QUIET + "sleeper 40 20 0 1;");
        edge.same("by 0 it is SLEPT", z.head(0, 0, 10), z.slept(10));
        edge.same("all others", z.head(0, 30, 10), 9);
        edge.same("more than there are", z.head(0, 30, 31), 30);
        edge.same("one more", z.head(0, 30, 32), 31 + 2);
        Check.work(z, "minute;call 2;");
        edge.same("one who sleeps now is free", z.head(0, 30, 10), 20);
        edge.same("so is he himself", z.head(2, 30, 10), 29);
        FirstAsleep five = Check.of("sleeper 40 20 0 0;".repeat(5));
        edge.same("four others", five.head(4, 30, 10), 9);
        edge.same("four others by 8", five.head(0, 8, 10), 9 + 4);
    }

    private void best() {
        edge.sentence(Edge.TERMS, "BEST HEAD: the h (0 to 30) of the most, of these the least.");
        // as soon as the other one falls asleep, both wake for good: h minutes are slept, if there are so many
        FirstAsleep x = with(PAIR, "", "1");
        int[][] due = {{0, 0}, {1, 0}, {2, 1}, {3, 2}, {30, 29}, {31, 30}, {32, 30}, {240, 30}};
        for (int[] d : due) {
            edge.same("best by " + d[0], x.best(0, d[0]), d[1]);
            edge.same("its head", x.head(0, d[1], d[0]), Math.min(30, Math.max(0, d[0] - 1)));
        }
        edge.same("alike: the least", Check.of(ONE).best(0, 240), 0);
        edge.same("each later one is worse", Check.of(QUIET).best(0, 240), 0);
        // the second is woken by what strikes in minute 5, unless he falls asleep there
        FirstAsleep y = with("sleeper 0 20 0 0;sleeper 0 0 0 0;plug 0 20;clock 5 40;", "", "most[1 - minute, awake - 4]");
        edge.same("by 0", y.head(0, 0, 7), 6 + 4);
        edge.same("by 1", y.head(0, 1, 7), 6 + 1);
        edge.same("so the best is 0", y.best(0, 7), 0);
        edge.same("by 1, in 12", y.head(0, 1, 12), 11 + 6);
        edge.same("by 0, in 12", y.head(0, 0, 12), 11 + 4);
        edge.same("by 6, in 12", y.head(0, 6, 12), 11 + 5);
        edge.same("so the best is 1", y.best(0, 12), 1);
    }

    /** Whoever falls asleep in minute 0 does so at once, else when awake for 4; strikes in 1 and 8 wake the first. */
    private static FirstAsleep struck() {
        return with("sleeper 0 0 0 0;sleeper 0 20 0 0;plug 1 20;clock 1 40;clock 8 40;", "", "most[1 - minute, awake - 3]");
    }

    private void hurry() {
        edge.sentence(Edge.TERMS, "each reads on for a MINUTES, 0 to k, of his own choice: he does not fall asleep in these (as by HEAD; others do as always);");
        FirstAsleep x = struck();
        int[] due = {7, 9, 9, 9, 9, 8, 7, 6, 11};
        for (int a = 0; a <= 8; a++) {
            edge.same("he reads for " + a, x.reads(0, 1, a, 0, 20), due[a]);
            edge.same("the other does as always", x.reads(1, 0, 0, a, 20), 19);
        }
        edge.sentence(Edge.TERMS, "he has what he sleeps in the next n; RESTS: neither would sleep more by another choice.");
        // k, how many rests, the first, what both sleep by it
        int[][] rests = {{0, 1, 0, 26}, {1, 1, 100, 28}, {4, 4, 100, 28}, {7, 4, 100, 28}, {8, 1, 800, 30}};
        for (int[] r : rests) {
            edge.same("rests by " + r[0], x.hurry(0, 1, r[0], 20, 0), r[1]);
            edge.same("the first by " + r[0], x.hurry(0, 1, r[0], 20, 1), r[2]);
            edge.same("both by " + r[0], x.hurry(0, 1, r[0], 20, 2), r[3]);
            edge.same("the other way round", x.hurry(1, 0, r[0], 20, 1), r[2] / 100);
        }
        FirstAsleep y = Check.of(QUIET);
        edge.same("of no minutes all rest", y.hurry(0, 1, 8, 0, 0), 81);
        edge.same("of one, too", y.hurry(0, 1, 8, 1, 0), 81);
        edge.same("of two only the first", y.hurry(0, 1, 8, 2, 0), 1);
    }

    private void hurryWithoutRests() {
        edge.sentence(23, "0 how many RESTS, 1 the first (100 times the one's choice, and the other one's; NONE), 2 what both sleep by it together (0 without).");
        // by (0, 0) the other one would read, by (0, 1) the one, by (1, 1) the other one not, by (1, 0) the one not
        FirstAsleep x = Check.of("sleeper 5 7 5 0;sleeper 39 7 3 0;clock 6 10;");
        int[][] one = new int[2][2];
        int[][] other = new int[2][2];
        for (int a = 0; a < 2; a++) {
            for (int b = 0; b < 2; b++) {
                one[a][b] = x.reads(0, 1, a, b, 9);
                other[a][b] = x.reads(1, 0, b, a, 9);
            }
        }
        check.holds("(0, 0) is none", other[0][1] > other[0][0] || one[1][0] > one[0][0]);
        check.holds("(0, 1) is none", other[0][0] > other[0][1] || one[1][1] > one[0][1]);
        check.holds("(1, 0) is none", other[1][1] > other[1][0] || one[0][0] > one[1][0]);
        check.holds("(1, 1) is none", other[1][0] > other[1][1] || one[0][1] > one[1][1]);
        edge.same("no rests", x.hurry(0, 1, 1, 9, 0), 0);
        edge.same("no first", x.hurry(0, 1, 1, 9, 1), -1);
        edge.same("nothing together", x.hurry(0, 1, 1, 9, 2), 0);
        edge.same("by 0 there is one", x.hurry(0, 1, 0, 9, 0), 1);
        edge.same("what both sleep by it", x.hurry(0, 1, 0, 9, 2), one[0][0] + other[0][0]);
        edge.same("no first, whatever was asked ahead", x.hurry(0, 1, 1, 9, 1), -1);
        x.hurry(0, 1, 0, 9, 0);
        edge.same("nothing together, whatever was asked ahead", x.hurry(0, 1, 1, 9, 2), 0);
        FirstAsleep y = struck();
        edge.same("the one's choice by hundreds", y.hurry(0, 1, 8, 20, 1), 800);
        edge.same("the other one's by ones", y.hurry(1, 0, 8, 20, 1), 8);
    }

    private void nudges() {
        edge.sentence(Edge.TERMS, "of all sets of the next 6 MINUTES, ahead of each of which P nudges Q (if it can be done then; else nothing): that by which SLEPT by n is most; of alike ones the least bits (the first MINUTE the lowest).");
        // he falls asleep only in minute 8 or later and hearing nothing; the other lies on his side for one minute
        for (int minute = 1; minute <= 8; minute++) {
            FirstAsleep x = with("sleeper 0 20 0 0;sleeper 40 0 9 0;over 1;", "", "snores + least[1, minute - 7] - heard");
            Edge.goOn(x, minute);
            int ahead = 8 - minute;
            edge.same("from minute " + minute + " on: the set", x.nudges(0, 1, 20, 1), ahead < 6 && minute < 8 ? 1 << ahead : minute == 8 ? 1 : 0);
            edge.same("what is slept", x.nudges(0, 1, 20, 0), 20 + (ahead < 6 ? 19 - ahead : 0));
        }
        FirstAsleep y = with("sleeper 0 20 0 0;sleeper 40 0 9 0;over 1;", "", "snores + least[1, minute - 7] - heard");
        Edge.goOn(y, 3);
        int[][] due = {{0, 0, 0}, {5, 5, 0}, {6, 6, 0}, {7, 8, 32}, {8, 10, 32}};
        for (int[] d : due) {
            edge.same("by " + d[0] + ": what is slept", y.nudges(0, 1, d[0], 0), d[1]);
            edge.same("by " + d[0] + ": the set", y.nudges(0, 1, d[0], 1), d[2]);
        }
        edge.same("one asleep nudges nobody: the set", y.nudges(1, 0, 20, 1), 0);
        edge.same("one asleep nudges nobody: slept", y.nudges(1, 0, 20, 0), 20);
    }

    private void rooms() {
        edge.sentence(Edge.TERMS, "of all ways for those who are awake to be in ROOM 0 or 1: that by which SLEPT by n is most; of alike ones the least bits (of those in ROOM 1, all).");
        FirstAsleep x = Check.of(PAIR + "wall 17;");
        edge.same("18 less 17 is borne: slept", x.rooms(10, 0), 18);
        edge.same("the first goes", x.rooms(10, 1), 1);
        FirstAsleep y = Check.of(PAIR + "wall 16;");
        edge.same("18 less 16 is not: slept", y.rooms(10, 0), 0);
        edge.same("all alike", y.rooms(10, 1), 0);
        FirstAsleep z = Check.of("sleeper 40 20 0 1;sleeper 40 20 0 1;");
        edge.same("alike: all in room 0", z.rooms(10, 1), 0);
        Check.work(z, "minute;");
        edge.same("both sleep in room 1: one way", z.rooms(10, 1), 3);
        Check.work(z, "call 0;");
        edge.same("he who is awake goes to room 0", z.rooms(10, 1), 2);
        edge.same("five", Check.of(ONE.repeat(4) + "sleeper 4 0 0 1;").rooms(0, 1), 0);
        FirstAsleep five = Check.of(ONE.repeat(4) + "sleeper 4 0 0 1;");
        Check.work(five, "minute;");
        edge.same("the fifth sleeps in room 1", five.rooms(0, 1), 16);
        // the second would wake, but for the wall, by him who sleeps in room 0
        FirstAsleep apart = Check.of("sleeper 60 20 9 0;sleeper 40 0 0 0;wall 17;");
        Check.law(apart, 1, "tired / 20 - heard / 2");
        Check.work(apart, "minute;call 1;");
        edge.same("the second goes", apart.rooms(10, 1), 2);
        edge.same("and sleeps", apart.rooms(10, 0), 10 + 9);
        FirstAsleep first = Check.of("sleeper 40 20 0 0;" + ONE.repeat(4));
        Check.work(first, "minute;");
        edge.same("the first of five sleeps on", first.rooms(3, 0), 3);
    }

    private void turns() {
        edge.sentence(Edge.TERMS, "TURNS of told SLEEPERS (bits; two at least) for d nights: each night all but one of them wear plugs; one who wears them sleeps 8, the one who listens 8 less what he owes by 60 (cut; 0 at least);");
        int[][] owed = {{0, 8}, {1, 8}, {59, 8}, {60, 7}, {119, 7}, {120, 6}, {179, 6}, {180, 5}, {239, 5}, {240, 4}};
        for (int[] o : owed) {
            FirstAsleep x = Check.of(ONE + ONE + "owes 0 " + o[0] + ";owes 1 " + o[0] + ";");
            edge.same("both owe " + o[0] + ", one night", x.inTurns(3, 1), o[1]);
            edge.same("two nights", x.inTurns(3, 2), 8 + o[1]);
            edge.same("three nights", x.inTurns(3, 3), 8 + 2 * o[1]);
            edge.same("no nights", x.inTurns(3, 0), 0);
        }
        edge.sentence(Edge.TERMS, "the most that the least of them sleeps in all, by all ways to share the d nights.");
        FirstAsleep y = Check.of(ONE.repeat(5) + "owes 0 240;owes 1 60;owes 4 240;");
        // the first listens twice, the second ten times: 88 and 86; once and eleven times: 92 and 85; three: 84
        edge.same("4 a night and 1 a night", y.inTurns(3, 12), 86);
        edge.same("one of them owes nothing", y.inTurns(5, 12), 96);
        edge.same("all of five", y.inTurns(31, 12), 96);
        edge.same("the first and the last", y.inTurns(17, 12), 72);
        edge.same("the first and the last, an odd number", y.inTurns(17, 11), 88 - 24);
    }

    private void fits() {
        edge.sentence(Edge.TERMS, "FITS of a SLEEPER: S (0 to 9) by which, had he it, by the LAW as it is, he would be as loud as each line of the BOOK tells,");
        FirstAsleep x = with("sleeper 12 7 5 0;", "snores * 4 + 1", "");
        edge.same("without lines", x.fits(0), 1023);
        int[][] due = {{0, 0}, {1, 1}, {2, 0}, {37, 1 << 9}, {38, 0}, {40, 0}};
        for (int[] d : due) {
            Check.book(x, "0 " + d[0] + ";");
            edge.same("heard " + d[0], x.fits(0), d[1]);
        }
        Check.law(x, 0, "snores * 9");
        Check.book(x, "0 40;");
        edge.same("40 at most", x.fits(0), 1 << 5 | 1 << 6 | 1 << 7 | 1 << 8 | 1 << 9);
        Check.book(x, "0 40;1 36;");
        edge.same("each line", x.fits(0), 0);
        edge.sentence(Edge.TERMS, "were he to sleep from MINUTE 0 on on his back, DEPTH M and 1 (9 at most), TIRED as told less M (0 at least).");
        Check.law(x, 0, "depth");
        Check.book(x, "0 1;1 2;7 8;8 9;9 9;239 9;");
        edge.same("depth", x.fits(0), 1023);
        Check.law(x, 0, "tired");
        Check.book(x, "0 12;1 11;11 1;12 0;13 0;239 0;");
        edge.same("tired", x.fits(0), 1023);
        Check.law(x, 0, "tired * tired + 3");
        Check.book(x, "12 3;13 3;239 3;");
        edge.same("tired by no less than 0", x.fits(0), 1023);
        Check.law(x, 0, "minute / 6");
        Check.book(x, "0 0;6 1;239 39;");
        edge.same("minute", x.fits(0), 1023);
        Check.work(x, "again 20[minute;];call 0;room 0;turn 0;plug 0 9;");
        edge.same("the night does not matter", x.fits(0), 1023);
        FirstAsleep two = with("sleeper 9 5 1 0;sleeper 8 6 2 0;wine 0 1;wine 1 2;cold 0 3;cold 1 4;", "light + wine * 4 + cold", "");
        Check.book(two, "3 12;");
        edge.same("the first one's light, wine and cold", two.fits(0), 1023);
        edge.same("not the second one's", two.fits(1), 0);
        Check.book(two, "3 18;");
        edge.same("not the first one's", two.fits(0), 0);
        edge.same("the second one's light, wine and cold", two.fits(1), 1023);
    }

    private void listen() {
        edge.sentence(Edge.TERMS, "LISTEN: the MINUTE (0 to 239) in no line by which, whatever is heard, fewest of these are left at the worst, of these the first.");
        FirstAsleep x = with(ONE, "minute / 239 * snores", "");
        edge.same("only the last minute tells", x.listen(0, 0), 239);
        edge.same("one is left", x.listen(0, 1), 1);
        Check.book(x, "239 4;");
        edge.same("it is in a line: the first", x.listen(0, 0), 0);
        edge.same("one is left", x.listen(0, 1), 1);
        Check.law(x, 0, "least[1, 1 - minute] * snores");
        Check.book(x, "");
        edge.same("minute 0 tells", x.listen(0, 0), 0);
        Check.law(x, 0, "minute / 240 * snores");
        edge.same("no minute tells: the first", x.listen(0, 0), 0);
        edge.same("ten are left", x.listen(0, 1), 10);
        Check.law(x, 0, "5");
        Check.book(x, "0 5;1 5;2 5;3 5;4 5;5 5;6 5;7 5;");
        edge.same("eight have lines", x.listen(0, 0), 8);
        edge.same("ten are left", x.listen(0, 1), 10);
        Check.law(x, 0, "40");
        Check.book(x, "");
        edge.same("40 is heard of all ten", x.listen(0, 1), 10);
        Check.law(x, 0, "35 + snores");
        edge.same("five of 40", x.listen(0, 1), 5);
        Check.law(x, 0, "5");
        Check.book(x, "1 5;0 5;3 5;");
        edge.same("two of three", x.listen(0, 0), 2);
        Check.book(x, "5 6;");
        edge.same("none fits: the first", x.listen(0, 0), 0);
        edge.same("none is left", x.listen(0, 1), 0);
        // ten alike in minute 0, six and four in minute 1, five times two in minute 2, then ten alike
        Check.book(x, "");
        Check.law(x, 0, "snores / (10 - minute * 4)");
        edge.same("five times two in minute 2", x.listen(0, 0), 2);
        edge.same("two are left at the worst", x.listen(0, 1), 2);
        Check.book(x, "2 1;");
        edge.same("2 and 3 fit: the first minute", x.listen(0, 0), 0);
        edge.same("both are left", x.listen(0, 1), 2);
        Check.book(x, "0 0;");
        Check.law(x, 0, "snores / (6 + minute)");
        edge.same("0 to 5 fit, no later minute parts them: the first without a line", x.listen(0, 0), 1);
        edge.same("six are left", x.listen(0, 1), 6);
    }

    private void isFraction(FirstAsleep x, int q, int k, int n, long above, long below) {
        edge.same("pauses(" + q + ", " + k + ", " + n + ", 0)", x.pauses(q, k, n, 0), above);
        edge.same("pauses(" + q + ", " + k + ", " + n + ", 1)", x.pauses(q, k, n, 1), below);
    }

    private void pauses() {
        edge.sentence(Edge.TERMS, "the mean number of rows of k or more failed breaths that begin (a row is told as its k-th fails, and is the same till a breath comes);");
        FirstAsleep x = new FirstAsleep();
        for (int k = 1; k <= 4; k++) {
            isFraction(x, 16, k, k, 1, 1);
            isFraction(x, 16, k, 12, 1, 1);
            isFraction(x, 16, k, k - 1, 0, 1);
            isFraction(x, 15, k, k - 1, 0, 1);
            isFraction(x, 0, k, 12, 0, 1);
            isFraction(x, 16, k, 0, 0, 1);
            isFraction(x, 8, k, k, 1, 1L << k);
            isFraction(x, 1, k, k, 1, 1L << 4 * k);
        }
        isFraction(x, 8, 1, 2, 3, 4);
        isFraction(x, 8, 2, 3, 3, 8);
        isFraction(x, 8, 1, 12, 13, 2 * 2);
        isFraction(x, 15, 4, 12, 151875, 131072);
        isFraction(x, 1, 4, 12, 17, 131072);
        isFraction(x, 12, 1, 3, 9, 8);
        isFraction(x, 15, 1, 2, 255, 256);
        isFraction(x, 15, 4, 5, 50625 * 17, 1048576);
    }

    private void doctor() {
        edge.sentence(Edge.TERMS, "DOCTOR by k, n: the least Q (0 to 16) by which that is 1 or more.");
        FirstAsleep x = new FirstAsleep();
        // k, n, due; by (1, 3) and 8 it is just 1, by (1, 2) and 15 just below
        int[][] due = {{1, 0, -1}, {1, 1, 16}, {1, 2, 16}, {1, 3, 8}, {1, 12, 2}, {2, 1, -1}, {2, 2, 16}, {3, 2, -1},
            {3, 3, 16}, {4, 3, -1}, {4, 4, 16}, {4, 12, 13}};
        for (int[] d : due) {
            edge.same("doctor(" + d[0] + ", " + d[1] + ")", x.doctor(d[0], d[1]), d[2]);
        }
    }

    private void draws() {
        edge.sentence(Edge.TERMS, "DRAW: the SEED (32 bits) becomes itself times 1,103,515,245, and 12,345 (it wraps); its bits 16 to 30, by 16 what is left of them.");
        FirstAsleep x = new FirstAsleep();
        // the seed, the first draw
        int[][] due = {{0, 0}, {1, 6}, {2, 12}, {3, 3}, {4, 9}, {5, 15}, {-1, 9}};
        for (int[] d : due) {
            edge.same("seed " + d[0] + ", Q just above", x.nights(d[0], d[1] + 1, 0, 1, 2), 1);
            edge.same("seed " + d[0] + ", Q at it", x.nights(d[0], d[1], 0, 1, 2), 0);
        }
        for (int seed : new int[] {0, 7, -1, Integer.MIN_VALUE, Integer.MAX_VALUE}) {
            for (int n : new int[] {1, 2, 239, 240}) {
                edge.same("cars of seed " + seed + " in " + n, x.nights(seed, 7, 0, n, 2), carsOf(seed, 7, n));
            }
        }
    }

    private static int carsOf(int seed, int q, int n) {
        long drawn = Integer.toUnsignedLong(seed);
        int sum = 0;
        for (int i = 0; i < n; i++) {
            drawn = (drawn * 1103515245L + 12345) % (1L << 32);
            sum += drawn / 65536 % 32768 % 16 < q ? 1 : 0;
        }
        return sum;
    }

    private void cars() {
        edge.sentence(Edge.TERMS, "NIGHTS by a SEED: for each of n MINUTES: DRAW by 16 below Q: a car passes, N loud in both ROOMS more in this MINUTE (ahead of plugs); then minute.");
        FirstAsleep x = with("sleeper 0 20 0 0;sleeper 0 20 0 1;plug 1 20;", "", "1");
        edge.same("no car by 0", x.nights(5, 0, 40, 240, 2), 0);
        edge.same("a car in each by 16", x.nights(5, 16, 40, 240, 2), 240);
        // in minute 1 both have depth 1 and light 20, the second has plugs by 20
        int[][] due = {{0, 0}, {20, 0}, {21, 0}, {22, 1}, {40, 1}};
        for (int[] d : due) {
            edge.same("woke by " + d[0], x.nights(5, 16, d[0], 2, 1), d[1]);
            edge.same("slept by " + d[0], x.nights(5, 16, d[0], 2, 0), 2 - d[1]);
            edge.same("sleep then, by " + d[0], x.nights(5, 16, d[0], 2, 3), 2 - d[1]);
        }
        // of one who is awake: 40 tired by 4 is 10
        FirstAsleep y = Check.of("sleeper 40 0 0 0;");
        edge.same("9 loud: he falls asleep", y.nights(5, 16, 9, 1, 3), 1);
        edge.same("10 loud: he does not", y.nights(5, 16, 10, 1, 3), 0);
        edge.same("without a car nothing is heard", Check.of("sleeper 4 0 0 0;").nights(5, 0, 40, 1, 3), 1);
        FirstAsleep z = Check.of("sleeper 40 0 0 0;plug 0 2;clock 0 1;");
        edge.same("a clock, a car, less plugs: 9", z.nights(5, 16, 10, 1, 3), 1);
        edge.same("a clock, a car, less plugs: 10", z.nights(5, 16, 11, 1, 3), 0);
    }

    private void carsBehindTheLastMinute() {
        edge.sentence(Edge.TERMS, "for each of n MINUTES: DRAW by 16 below Q:");
        FirstAsleep x = Edge.at(QUIET, 239);
        edge.same("cars of 240", x.nights(7, 5, 0, 240, 2), carsOf(7, 5, 240));
        edge.same("slept in one", x.nights(7, 5, 0, 240, 0), 2);
        Check.work(x, "minute;");
        edge.same("cars of 240, on minute 240", x.nights(7, 5, 40, 240, 2), carsOf(7, 5, 240));
        edge.same("slept on minute 240", x.nights(7, 16, 40, 240, 0), 0);
        edge.same("woke on minute 240", x.nights(7, 16, 40, 240, 1), 0);
        edge.same("sleep then", x.nights(7, 16, 40, 240, 3), 2);
    }

    // ---- promises 17 to 35 ----

    private void boundsOfMinutes() {
        edge.sentence(17, "SOON.");
        FirstAsleep nobody = new FirstAsleep();
        check.noSleeper("soon of nobody", () -> nobody.soon(0));
        edge.sentence(18, "SLEPT by n (0 to 240).");
        FirstAsleep x = Check.of(QUIET);
        edge.bounds(x, "slept", 0, 240, n -> x.slept(n));
        edge.same("by 0", x.slept(0), 0);
        edge.same("by 240", x.slept(240), 478);
        edge.sentence(19, "MINUTES one sleeps in the next n (0 to 240), nothing being done.");
        edge.bounds(x, "sleeps", 0, 240, n -> x.sleeps(1, n));
        edge.same("by 0", x.sleeps(1, 0), 0);
        edge.same("by 240", x.sleeps(1, 240), 239);
    }

    private void most() {
        edge.sentence(20, "In how many MINUTES from now (0 to 120), nothing being done, most sleep, of these the first: 0 when, 1 how many.");
        FirstAsleep x = with(ONE + "sleeper 0 0 1 0;", "0", "minute + 2 - 60 * (2 - snores)");
        // the second falls asleep in minute 59, the first in minute 119
        edge.same("how many", x.most(1), 2);
        edge.same("when", x.most(0), 120);
        edge.bounds(x, "most", 0, 1, what -> x.most(what));
        Check.law(x, 1, "minute + 1 - 60 * (2 - snores)");
        edge.same("one in 121 is too late: how many", x.most(1), 1);
        edge.same("one in 121 is too late: when", x.most(0), 61);
        FirstAsleep y = Check.of(QUIET);
        edge.same("both in 1", y.most(0) * 10 + y.most(1), 12);
        Check.work(y, "minute;");
        edge.same("both now", y.most(0) * 10 + y.most(1), 2);
        edge.same("nobody at all: when", new FirstAsleep().most(0), 0);
        edge.same("nobody at all: how many", new FirstAsleep().most(1), 0);
        // two sleep from 1 on, both wake in 2, both sleep again: the first
        FirstAsleep z = Check.of(PAIR);
        edge.same("the first of these", z.most(0), 1);
        edge.same("just tired enough, hearing nothing", Check.of("sleeper 4 0 0 0;").most(0), 1);
    }

    private void boundsOfHeads() {
        edge.sentence(21, "HEAD of a SLEEPER by h (0 to 30), n (0 to 240).");
        FirstAsleep x = Check.of(QUIET);
        edge.bounds(x, "head: h", 0, 30, h -> x.head(0, h, 9));
        edge.bounds(x, "head: n", 0, 240, n -> x.head(0, 9, n));
        edge.same("by 0, 240", x.head(0, 0, 240), 478);
        edge.same("by 30, 240", x.head(0, 30, 240), 239 + 209);
        edge.same("by 30, 0", x.head(0, 30, 0), 0);
        edge.sentence(22, "BEST HEAD by n.");
        edge.bounds(x, "best: n", 0, 240, n -> x.best(0, n));
    }

    private void boundsOfHurry() {
        edge.sentence(23, "HURRY of two by k (0 to 8), n (0 to 120):");
        FirstAsleep x = Check.of(QUIET);
        edge.bounds(x, "hurry: k", 0, 8, k -> x.hurry(0, 1, k, 9, 0));
        edge.bounds(x, "hurry: n", 0, 120, n -> x.hurry(0, 1, 3, n, 0));
        edge.bounds(x, "hurry: what", 0, 2, what -> x.hurry(0, 1, 3, 9, what));
        edge.same("by 0, 120: both", x.hurry(0, 1, 0, 120, 2), 238);
        edge.same("by 8, 0: both", x.hurry(0, 1, 8, 0, 2), 0);
        edge.sentence(23, "IllegalArgumentException: one SLEEPER, too.");
        int before = x.status(1);
        check.badArgument("hurry(0, 0, ..)", () -> x.hurry(0, 0, 1, 1, 0));
        check.badArgument("hurry(1, 1, ..)", () -> x.hurry(1, 1, 1, 1, 0));
        edge.same("two are counted", x.status(1), before + 2);
    }

    private void reads() {
        edge.sentence(24, "What the first of two sleeps in the next n (0 to 120), if they read on for so many (0 to 60).");
        FirstAsleep x = with(QUIET, "", "1");
        edge.bounds(x, "reads: own", 0, 60, own -> x.reads(0, 1, own, 0, 9));
        edge.bounds(x, "reads: its", 0, 60, its -> x.reads(0, 1, 0, its, 9));
        edge.bounds(x, "reads: n", 0, 120, n -> x.reads(0, 1, 0, 0, n));
        int[][] due = {{0, 0, 0}, {0, 1, 0}, {0, 2, 1}, {0, 120, 119}, {1, 120, 118}, {59, 120, 60}, {60, 120, 59}, {60, 61, 0},
            {60, 62, 1}};
        for (int[] d : due) {
            edge.same("reads for " + d[0] + ", by " + d[1], x.reads(0, 1, d[0], 0, d[1]), d[2]);
            edge.same("so of the other", x.reads(1, 0, d[0], 60, d[1]), d[2]);
        }
        edge.sentence(24, "IllegalArgumentException: one SLEEPER, too.");
        check.badArgument("reads(0, 0, ..)", () -> x.reads(0, 0, 1, 1, 1));
        check.badArgument("reads(1, 1, ..)", () -> x.reads(1, 1, 0, 0, 0));
    }

    private void boundsOfNudges() {
        edge.sentence(25, "NUDGES by n (0 to 120): 0 SLEPT, 1 the set (bits).");
        FirstAsleep x = Check.of(QUIET);
        edge.bounds(x, "nudges: n", 0, 120, n -> x.nudges(0, 1, n, 0));
        edge.bounds(x, "nudges: what", 0, 1, what -> x.nudges(0, 1, 9, what));
        edge.same("by 0", x.nudges(0, 1, 0, 0), 0);
        edge.same("by 120", x.nudges(0, 1, 120, 0), 238);
        edge.sentence(25, "IllegalArgumentException: one SLEEPER, too.");
        check.badArgument("nudges(0, 0, ..)", () -> x.nudges(0, 0, 1, 0));
        check.badArgument("nudges(1, 1, ..)", () -> x.nudges(1, 1, 0, 0));
    }

    private void boundsOfRooms() {
        edge.sentence(26, "ROOMS by n (0 to 120): 0 SLEPT, 1 who is in ROOM 1 (bits).");
        FirstAsleep x = Check.of(QUIET);
        edge.bounds(x, "rooms: n", 0, 120, n -> x.rooms(n, 0));
        edge.bounds(x, "rooms: what", 0, 1, what -> x.rooms(9, what));
        edge.same("by 0", x.rooms(0, 0), 0);
        edge.same("by 120", x.rooms(120, 0), 238);
        edge.same("of nobody", new FirstAsleep().rooms(120, 0), 0);
    }

    private void boundsOfTurns() {
        edge.sentence(27, "TURNS for d (0 to 12) nights.");
        FirstAsleep x = Check.of(ONE + ONE);
        edge.bounds(x, "inTurns: d", 0, 12, d -> x.inTurns(3, d));
        edge.same("for 0", x.inTurns(3, 0), 0);
        edge.same("for 12", x.inTurns(3, 12), 96);
        edge.sentence(27, "IllegalArgumentException: bits of no two SLEEPERS at least.");
        int before = x.status(1);
        int[] bad = {0, 1, 2, 4, 5, 6, 12, 32, 33, 1 << 30, Integer.MIN_VALUE, Integer.MIN_VALUE | 1};
        for (int bits : bad) {
            check.badArgument("inTurns(" + bits + ", 1)", () -> x.inTurns(bits, 1));
        }
        edge.same("each is counted", x.status(1), before + bad.length);
        FirstAsleep one = Check.of(ONE);
        check.badArgument("of one", () -> one.inTurns(1, 1));
        check.badArgument("of one and nobody", () -> one.inTurns(3, 1));
        FirstAsleep five = Check.of(ONE.repeat(5));
        for (int bits = 0; bits < 32; bits++) {
            int set = bits;
            if (Integer.bitCount(bits) < 2) {
                check.badArgument("inTurns(" + bits + ", 2)", () -> five.inTurns(set, 2));
            } else {
                edge.same("inTurns(" + bits + ", 2)", five.inTurns(set, 2), 16);
            }
        }
    }

    private void boundsOfListen() {
        edge.sentence(28, "FITS of a SLEEPER, as bits (S 0 the lowest).");
        FirstAsleep x = with(ONE, "snores", "");
        for (int s = 0; s <= 9; s++) {
            Check.book(x, "0 " + s + ";");
            edge.same("heard " + s, x.fits(0), 1 << s);
        }
        Check.book(x, "0 10;");
        edge.same("heard 10", x.fits(0), 0);
        edge.sentence(29, "LISTEN: 0 the MINUTE, 1 how many are left at the worst.");
        edge.bounds(x, "listen: what", 0, 1, what -> x.listen(0, what));
    }

    private void boundsOfPauses() {
        edge.sentence(30, "PAUSES (Q 0 to 16, k 1 to 4, n 0 to 12): above (part 0), below (part 1), in least terms.");
        FirstAsleep x = new FirstAsleep();
        edge.bounds(x, "pauses: q", 0, 16, q -> x.pauses(q, 1, 1, 0));
        edge.bounds(x, "pauses: k", 1, 4, k -> x.pauses(1, k, 1, 0));
        edge.bounds(x, "pauses: n", 0, 12, n -> x.pauses(1, 1, n, 0));
        edge.bounds(x, "pauses: part", 0, 1, part -> x.pauses(1, 1, 1, part));
        for (int q = 0; q <= 16; q++) {
            long above = x.pauses(q, 3, 7, 0);
            long below = x.pauses(q, 3, 7, 1);
            check.holds("below is above 0 and odd, or above is odd", below > 0 && (below == 1 || above % 2 == 1));
            long sixteenths = (long) q * q * q * (16 + 4 * (16 - q));
            check.holds("the same fraction", above * 65536 == sixteenths * below);
            above = x.pauses(q, 2, 5, 0);
            below = x.pauses(q, 2, 5, 1);
            check.holds("so of three behind two", below > 0 && (below == 1 || above % 2 == 1)
                && above * 4096 == (long) q * q * (16 + 3 * (16 - q)) * below);
        }
        isFraction(x, 4, 1, 1, 1, 4);
        isFraction(x, 12, 1, 1, 3, 4);
    }

    private void boundsOfDoctor() {
        edge.sentence(31, "DOCTOR by k (1 to 4), n (0 to 12); NONE: by no Q.");
        FirstAsleep x = new FirstAsleep();
        edge.bounds(x, "doctor: k", 1, 4, k -> x.doctor(k, 1));
        edge.bounds(x, "doctor: n", 0, 12, n -> x.doctor(1, n));
        for (int k = 1; k <= 4; k++) {
            edge.same("k - 1 minutes: by none", x.doctor(k, k - 1), -1);
            edge.same("k minutes: by 16", x.doctor(k, k), 16);
            edge.same("none: by none", x.doctor(k, 0), -1);
        }
    }

    private void walls() {
        edge.sentence(32, "The least wall W (0 to 40), all else as it is, by which SLEPT by n (0 to 240) is most.");
        // the other one falls asleep only when he hears nothing
        for (int loud : new int[] {0, 1, 39, 40, 41}) {
            FirstAsleep x = with("sleeper 0 20 9 0;sleeper 0 20 0 1;wall 5;", String.valueOf(loud),
                "snores + least[1, minute - 3] - heard");
            edge.same("wall against " + loud, x.wall(20), Math.min(40, loud));
            edge.same("none by 0", x.wall(0), 0);
            edge.same("the wall stays", x.told(7), 5);
        }
        FirstAsleep y = Check.of(QUIET);
        edge.bounds(y, "wall", 0, 240, n -> y.wall(n));
        edge.same("alike: the least", y.wall(240), 0);
        // the other one falls asleep only when he hears something: from 18 on he hears nothing
        FirstAsleep z = with("sleeper 0 20 9 0;sleeper 0 20 0 1;wall 30;", "", "snores + heard");
        edge.same("a wall too thick is worse", z.wall(20), 0);
        edge.same("by the wall as it is", z.slept(20), 19);
    }

    private void plugs() {
        edge.sentence(33, "The least plugs (0 to 20) for a SLEEPER by which he sleeps m (0 to 240) or more of the next n (0 to 240), nothing being done; NONE: by none.");
        for (int loud : new int[] {0, 1, 19, 20, 21, 40}) {
            FirstAsleep x = with("sleeper 0 20 9 0;sleeper 0 20 0 0;plug 1 7;", String.valueOf(loud),
                "snores + least[1, minute - 3] - heard");
            // he falls asleep in minute 4, at the earliest, and sleeps 5 of 10
            edge.same("plugs against " + loud, x.plugs(1, 5, 10), loud > 20 ? -1 : loud);
            edge.same("for one minute", x.plugs(1, 1, 10), loud > 20 ? -1 : loud);
            edge.same("for six of ten", x.plugs(1, 6, 10), -1);
            edge.same("for none", x.plugs(1, 0, 10), 0);
            edge.same("for none of none", x.plugs(1, 0, 0), 0);
            edge.same("for one of none", x.plugs(1, 1, 0), -1);
            edge.same("his plugs stay", x.sleeper(1, 8), 7);
        }
        FirstAsleep y = Check.of(QUIET);
        edge.bounds(y, "plugs: m", 0, 240, m -> y.plugs(0, m, 9));
        edge.bounds(y, "plugs: n", 0, 240, n -> y.plugs(0, 9, n));
        edge.same("239 of 240", y.plugs(0, 239, 240), 0);
        edge.same("240 of 240", y.plugs(0, 240, 240), -1);
        Check.work(y, "minute;");
        edge.same("one who sleeps: 239", y.plugs(0, 239, 240), 0);
    }

    private void boundsOfNights() {
        edge.sentence(34, "NIGHTS of n (1 to 240) MINUTES, Q (0 to 16), N (0 to 40): 0 MINUTES all sleep in them, 1 how often one woke, 2 cars, 3 how many sleep then.");
        FirstAsleep x = Check.of(QUIET);
        edge.bounds(x, "nights: q", 0, 16, q -> x.nights(1, q, 9, 9, 0));
        edge.bounds(x, "nights: loud", 0, 40, loud -> x.nights(1, 9, loud, 9, 0));
        edge.bounds(x, "nights: n", 1, 240, n -> x.nights(1, 9, 9, n, 0));
        edge.bounds(x, "nights: what", 0, 3, what -> x.nights(1, 9, 9, 9, what));
        for (int seed : new int[] {0, -1, Integer.MIN_VALUE, Integer.MAX_VALUE}) {
            edge.same("any seed: slept", x.nights(seed, 16, 0, 240, 0), 478);
            edge.same("any seed: woke", x.nights(seed, 16, 0, 240, 1), 0);
            edge.same("any seed: sleep then", x.nights(seed, 16, 0, 1, 3), 2);
            edge.same("any seed: slept in one", x.nights(seed, 16, 0, 1, 0), 0);
        }
        // what was ahead of the night does not count
        FirstAsleep y = Edge.at(PAIR, 2);
        edge.same("woke ahead", y.told(4), 2);
        edge.same("woke in two", y.nights(1, 0, 0, 2, 1), 2);
        edge.same("woke in one", y.nights(1, 0, 0, 1, 1), 0);
    }

    private void spans() {
        edge.sentence(35, "Of so many SEEDS (1 to 20; seed, seed and 1, ..): 0 the fewest MINUTES all sleep, 1 the most, 2 by how many nobody woke.");
        FirstAsleep x = Check.of("sleeper 30 3 4 0;sleeper 24 5 3 1;wall 4;");
        edge.bounds(x, "span: many", 1, 20, many -> x.span(1, many, 9, 9, 9, 0));
        edge.bounds(x, "span: q", 0, 16, q -> x.span(1, 2, q, 9, 9, 0));
        edge.bounds(x, "span: loud", 0, 40, loud -> x.span(1, 2, 9, loud, 9, 0));
        edge.bounds(x, "span: n", 1, 240, n -> x.span(1, 2, 9, 9, n, 0));
        edge.bounds(x, "span: what", 0, 2, what -> x.span(1, 2, 9, 9, 9, what));
        int[][] cases = {{5, 1}, {5, 2}, {5, 20}, {Integer.MAX_VALUE, 2}, {Integer.MAX_VALUE - 9, 20}, {-3, 6}};
        for (int[] c : cases) {
            int fewest = Integer.MAX_VALUE;
            int most = Integer.MIN_VALUE;
            int quiet = 0;
            for (int i = 0; i < c[1]; i++) {
                int sum = x.nights(c[0] + i, 1, 13, 40, 0);
                fewest = Math.min(fewest, sum);
                most = Math.max(most, sum);
                quiet += x.nights(c[0] + i, 1, 13, 40, 1) == 0 ? 1 : 0;
            }
            edge.same("the fewest of " + c[1] + " from " + c[0], x.span(c[0], c[1], 1, 13, 40, 0), fewest);
            edge.same("the most of " + c[1] + " from " + c[0], x.span(c[0], c[1], 1, 13, 40, 1), most);
            edge.same("undisturbed of " + c[1] + " from " + c[0], x.span(c[0], c[1], 1, 13, 40, 2), quiet);
        }
        FirstAsleep five = Check.of("sleeper 60 20 0 0;".repeat(5));
        edge.same("the fewest of five", five.span(0, 20, 16, 0, 240, 0), 239 * 5);
        Check.work(five, "minute;");
        edge.same("all that can be", five.span(0, 20, 16, 0, 239, 0), 239 * 5);
        edge.same("nobody wakes in any", five.span(0, 20, 16, 0, 240, 2), 20);
        Check.work(five, "minute;minute;");
        edge.same("what was slept ahead does not count: fewest", five.span(0, 20, 16, 0, 3, 0), 15);
        edge.same("what was slept ahead does not count: most", five.span(0, 20, 16, 0, 3, 1), 15);
        edge.same("none at all: most", Check.of(ONE).span(0, 20, 16, 40, 9, 1), 0);
        edge.same("of nobody", new FirstAsleep().span(0, 20, 16, 40, 240, 0), 0);
        edge.same("nobody of nobody wakes", new FirstAsleep().span(0, 20, 16, 40, 240, 2), 20);
    }
}
