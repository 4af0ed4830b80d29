/** Promises 17 to 35: what is asked of the minutes to come, of what was heard, of breaths and cars. */
public final class AskTest {
    private static final Check check = new Check("AskTest");
    /** Two who wake one another as soon as both sleep: a cycle of two minutes without a minute slept. */
    private static final String PAIR = "sleeper 40 0 9 0;sleeper 40 0 9 0;wall 17;";

    public static void main(String[] args) {
        soon();
        sleptSleepsMost();
        heads();
        hurrying();
        hurryByAllChoices();
        hurryOfOneAsleep();
        nudging();
        nudgingInTheSixthMinute();
        mostOfAll();
        roomsToBeIn();
        turns();
        fitsAndListen();
        breaths();
        wallsAndPlugs();
        nightsBySeeds();
        spans();
        nothingStaysChanged();
        bounds();
        check.end();
    }

    private static FirstAsleep atMinute(String house, int minute) {
        FirstAsleep x = Check.of(house);
        for (int left = minute; left > 0; left -= 60) {
            Check.work(x, "again " + Math.min(60, left) + "[minute;];");
        }
        return x;
    }

    private static void soon() {
        FirstAsleep x = Check.of("sleeper 8 5 6 0;sleeper 2 3 0 0;");
        check.same("he falls asleep in this minute", x.soon(0), 1);
        // 12 are heard from minute 1 on: tired must be 52, and is 2 and the minute
        check.same("he hears the other one", x.soon(1), 51);
        Check.work(x, "minute;");
        check.same("he does", x.soon(0), 0);
        check.same("a minute less", x.soon(1), 50);
        Check.law(x, 1, "minute - 119");
        check.same("in minute 120, from minute 1 on", x.soon(1), 120);
        Check.law(x, 1, "minute - 120");
        check.same("none of the next 120", x.soon(1), -1);
        FirstAsleep y = atMinute("sleeper 0 0 0 0;", 0);
        Check.law(y, 1, "minute - 119");
        check.same("of the next 120 none", y.soon(0), -1);
        Check.law(y, 1, "minute - 118");
        check.same("the last of the next 120", y.soon(0), 120);
        FirstAsleep z = Check.of("sleeper 0 0 0 0;");
        Check.law(z, 1, "0");
        for (int i = 0; i < 4; i++) {
            Check.work(z, "again 60[minute;];");
        }
        Check.law(z, 1, "1");
        check.same("no minutes are left", z.soon(0), -1);
        check.noSleeper("soon(1)", () -> z.soon(1));
    }

    private static void sleptSleepsMost() {
        FirstAsleep x = Check.of("sleeper 40 20 0 0;sleeper 0 20 0 1;");
        // the one falls in minute 0, the other in minute 4 (tired by 4)
        check.same("slept(0)", x.slept(0), 0);
        check.same("slept(1)", x.slept(1), 0);
        check.same("slept(5)", x.slept(5), 4);
        check.same("slept(10)", x.slept(10), 9 + 5);
        check.same("slept(240)", x.slept(240), 239 + 235);
        check.same("sleeps(1, 10)", x.sleeps(1, 10), 5);
        check.same("sleeps(0, 240)", x.sleeps(0, 240), 239);
        check.same("most: when", x.most(0), 5);
        check.same("most: how many", x.most(1), 2);
        FirstAsleep y = atMinute("sleeper 40 20 0 0;sleeper 0 20 0 1;", 236);
        check.same("as far as there are minutes", y.slept(240), 8);
        check.same("so of one", y.sleeps(1, 9), 4);
        check.same("most are now", y.most(0), 0);
        FirstAsleep z = Check.of("sleeper 0 0 0 0;");
        Check.law(z, 1, "minute - 118");
        check.same("in 120 minutes", z.most(0), 120);
        Check.law(z, 1, "minute - 119");
        check.same("not later", z.most(0), 0);
        check.same("nobody", z.most(1), 0);
    }

    private static void heads() {
        FirstAsleep x = Check.of(PAIR);
        check.same("without a head start", x.head(0, 0, 10), 0);
        check.same("a minute of it", x.head(0, 1, 10), 9);
        check.same("the most of it", x.head(0, 30, 10), 9);
        check.same("the best", x.best(0, 10), 1);
        check.same("the best of nothing", x.best(0, 1), 0);
        // the other one, tired by 40 and the minute, hears 18 and falls by 76: in minute 36
        check.same("up to his falling asleep, which wakes both", x.head(0, 1, 40), 36);
        FirstAsleep y = Check.of("sleeper 40 20 0 0;sleeper 40 20 0 0;");
        check.same("all others, not himself", y.head(1, 7, 20), 19 + 12);
        Check.work(y, "minute;");
        check.same("one who sleeps sleeps on", y.head(1, 7, 20), 40);
        // tired by 9 he falls: the one in minute 9, the other, by reading, in minute 7, tired by 10
        FirstAsleep z = Check.of("sleeper 0 0 0 0;sleeper 3 0 0 0;");
        Check.law(z, 1, "tired - 8");
        check.same("tired grows meanwhile", z.head(0, 7, 20), 10 + 12);
    }

    private static void hurrying() {
        FirstAsleep x = Check.of(PAIR);
        check.same("reads: the other reads on", x.reads(0, 1, 0, 1, 10), 9);
        check.same("reads: he himself does", x.reads(0, 1, 1, 0, 10), 0);
        check.same("reads: both do", x.reads(0, 1, 1, 1, 10), 0);
        check.same("reads: both, he less", x.reads(1, 0, 4, 5, 10), 5);
        check.same("reads: 60", x.reads(0, 1, 60, 60, 120), 0);
        // (0, 0), (0, 1), (1, 0) rest; by (1, 1) each would sleep more by 0
        check.same("hurry: rests", x.hurry(0, 1, 1, 10, 0), 3);
        check.same("hurry: the first", x.hurry(0, 1, 1, 10, 1), 0);
        check.same("hurry: together", x.hurry(0, 1, 1, 10, 2), 0);
        check.same("hurry by 0", x.hurry(0, 1, 0, 10, 0), 1);
        // the other one snores, he is light: his best is to fall asleep at once; the other one's, too
        FirstAsleep y = Check.of("sleeper 40 20 0 0;sleeper 40 20 0 1;sleeper 40 20 0 1;");
        check.same("hurry: one rest", y.hurry(2, 0, 8, 20, 0), 1);
        check.same("hurry: both at once", y.hurry(2, 0, 8, 20, 1), 0);
        check.same("hurry: what both sleep", y.hurry(2, 0, 8, 20, 2), 38);
        // by his own 0 the other one's 1 is better, by that 1, by that the other one's 0, by that 0
        FirstAsleep none = Check.of("sleeper 5 7 5 0;sleeper 39 7 3 0;clock 6 10;");
        check.same("hurry: no rests", none.hurry(0, 1, 1, 9, 0), 0);
        check.same("hurry: no first", none.hurry(0, 1, 1, 9, 1), -1);
        check.same("hurry: nothing together", none.hurry(0, 1, 1, 9, 2), 0);
        // he reads on through what would wake him; the other one sleeps at once
        FirstAsleep late = Check.of("sleeper 3 6 1 0;sleeper 4 0 2 0;clock 3 9;");
        check.same("hurry: one rest", late.hurry(0, 1, 2, 9, 0), 1);
        check.same("hurry: the one's choice is told by hundreds", late.hurry(0, 1, 2, 9, 1), 200);
        check.same("hurry: the other one's by ones", late.hurry(1, 0, 2, 9, 1), 2);
        check.same("hurry: both together", late.hurry(0, 1, 2, 9, 2), 4 + 2);
    }

    private static void hurryByAllChoices() {
        FirstAsleep x = Check.of("sleeper 3 6 1 0;sleeper 4 0 2 0;clock 3 9;");
        check.same("hurry by 8 of nothing: all rest", x.hurry(0, 1, 8, 0, 0), 81);
        check.same("the least first", x.hurry(0, 1, 8, 0, 1), 0);
        check.same("the pair that rests by 2", x.hurry(0, 1, 2, 9, 1), 200);
        check.same("by 0 there is one, whatever was asked ahead", x.hurry(0, 1, 0, 9, 0), 1);
        // he who is awake for 8 minutes hears the last of six strokes
        FirstAsleep y = Check.of("sleeper 40 0 0 0;sleeper 40 20 0 0;clock 2 9;clock 4 9;clock 6 9;clock 8 9;");
        Check.law(y, 1, "heard + 1");
        for (int k = 0; k <= 8; k++) {
            int due = 0;
            for (int a = 1; a <= k; a++) {
                due = y.reads(0, 1, a, 0, 9) > y.reads(0, 1, due, 0, 9) ? a : due;
            }
            check.same("the best of one's own by " + k, y.hurry(0, 1, k, 9, 1), 100 * due);
        }
    }

    private static void hurryOfOneAsleep() {
        // one who sleeps now, wakes by the stroke of minute 3 and reads on for 6 does not fall asleep in these
        FirstAsleep x = Check.of("sleeper 40 0 0 0;sleeper 0 0 0 0;clock 3 40;");
        Check.work(x, "minute;minute;");
        check.same("one who wakes meanwhile reads", x.reads(0, 1, 6, 0, 12), 1 + 5);
        check.same("one who wakes and reads not", x.reads(0, 1, 0, 0, 12), 1 + 9);
        check.same("by a head start of the other, he is free", x.head(1, 6, 12), x.head(1, 0, 12));
    }

    private static void nudging() {
        FirstAsleep x = Check.of("sleeper 4 9 0 0;sleeper 40 9 9 0;");
        Check.work(x, "again 6[minute;];");
        check.same("he is awake", x.sleeper(0, 4), 0);
        check.same("the other sleeps", x.sleeper(1, 4), 6);
        check.same("nudged at once, both sleep", x.nudges(0, 1, 10, 0), 10 + 9);
        check.same("the first minute is the lowest bit", x.nudges(0, 1, 10, 1), 1);
        check.same("of nothing nothing", x.nudges(0, 1, 0, 1), 0);
        check.same("one asleep nudges nobody", x.nudges(1, 0, 10, 1), 0);
        check.same("and all is as without", x.nudges(1, 0, 10, 0), x.slept(10));
        // a depth of 1 and 2 wakes: the other waits till the third minute
        FirstAsleep y = Check.of("sleeper 4 9 0 0;sleeper 40 9 9 0;");
        Check.work(y, "minute;minute;");
        int set = y.nudges(0, 1, 12, 1);
        check.holds("bits of six minutes", set >= 0 && set < 64);
        check.holds("never fewer than without", y.nudges(0, 1, 12, 0) >= y.slept(12));
    }

    /** He falls asleep only when he hears nothing, and from minute 8 on; the other lies on his side for one minute. */
    private static void nudgingInTheSixthMinute() {
        FirstAsleep x = Check.of("sleeper 0 20 0 0;sleeper 40 0 9 0;over 1;");
        Check.law(x, 1, "snores + least[1, minute - 7] - heard");
        Check.work(x, "minute;minute;");
        check.same("the seventh minute is too late", x.nudges(0, 1, 10, 1), 0);
        check.same("he does not sleep", x.nudges(0, 1, 10, 0), 10);
        Check.work(x, "minute;");
        check.same("the sixth minute is the sixth bit", x.nudges(0, 1, 10, 1), 32);
        check.same("he sleeps from the seventh on", x.nudges(0, 1, 10, 0), 10 + 4);
    }

    /** What is found only at the end of what is tried. */
    private static void mostOfAll() {
        FirstAsleep x = Check.of(PAIR);
        Check.law(x, 1, "1");
        check.same("the other one falls asleep as soon as he may", x.best(0, 60), 30);
        check.same("so much is slept till then", x.head(0, 30, 60), 30);
        FirstAsleep y = Check.of("sleeper 40 20 9 0;sleeper 0 20 0 1;");
        Check.law(y, 0, "snores * 9");
        Check.law(y, 1, "snores + least[1, minute - 3] - heard");
        check.same("he bears nothing through the wall", y.wall(10), 40);
        FirstAsleep z = Check.of("sleeper 40 20 9 0;sleeper 0 20 0 0;");
        Check.law(z, 0, "20");
        Check.law(z, 1, "snores + least[1, minute - 3] - heard");
        check.same("he bears nothing behind his plugs", z.plugs(1, 3, 10), 20);
        Check.law(z, 0, "21");
        check.same("no plugs take off 21", z.plugs(1, 3, 10), -1);
    }

    private static void roomsToBeIn() {
        FirstAsleep x = Check.of(PAIR);
        check.same("rooms: slept", x.rooms(10, 0), 18);
        check.same("rooms: the least bits", x.rooms(10, 1), 1);
        check.same("rooms by 0", x.rooms(0, 1), 0);
        FirstAsleep y = Check.of("sleeper 0 9 0 0;sleeper 40 0 9 1;");
        Check.work(y, "minute;");
        check.same("one who sleeps stays, and counts", y.rooms(0, 1), 2);
        // awake in room 0 he hears 8 and falls by 36; in room 1 he hears 18
        check.same("apart is better", y.rooms(60, 1), 2);
        Check.work(y, "room 0;");
        check.same("so from the other room", y.rooms(60, 1), 2);
        check.same("rooms: slept", y.rooms(60, 0), 60 + 24);
    }

    private static void turns() {
        FirstAsleep x = Check.of("sleeper 0 0 0 0;sleeper 0 0 0 0;sleeper 0 0 0 0;owes 0 120;owes 1 119;owes 2 240;");
        check.same("cut by 60", x.inTurns(3, 3), 22);
        check.same("one night", x.inTurns(3, 1), 7);
        check.same("no nights", x.inTurns(3, 0), 0);
        check.same("the middle pair", x.inTurns(6, 12), 96 - 10);
        check.same("all three", x.inTurns(7, 7), 52);
        FirstAsleep y = Check.of("sleeper 0 0 0 0;sleeper 0 0 0 0;owes 0 59;owes 1 59;");
        check.same("who owes less than an hour listens for nothing", y.inTurns(3, 12), 96);
        FirstAsleep z = Check.of("sleeper 60 0 0 0;sleeper 60 0 0 1;owes 0 120;owes 1 180;");
        Check.work(z, "again 60[minute;];again 60[minute;];again 60[minute;];");
        check.same("what he needs still, behind 179 minutes of sleep", z.sleeper(1, 9), 1);
        check.same("he owes what he was told to owe", z.inTurns(3, 2), 8 + 5);
        check.same("the other one, too", z.inTurns(3, 3), 24 - 4);
        check.badArgument("inTurns(3, -1)", () -> x.inTurns(3, -1));
        check.badArgument("inTurns(3, 13)", () -> x.inTurns(3, 13));
        for (int bits : new int[] {0, 1, 2, 4, 8, 9, 11, 15, -1, -5, 1 << 31 | 3}) {
            check.badArgument("inTurns(" + bits + ", 1)", () -> x.inTurns(bits, 1));
        }
    }

    private static void fitsAndListen() {
        FirstAsleep x = Check.of("sleeper 12 7 0 0;wine 0 2;cold 0 3;");
        check.same("an empty book fits all", x.fits(0), 1023);
        Check.book(x, "0 11;");
        check.same("fits by the law without", x.fits(0), 1 << 3);
        Check.law(x, 0, "tired + snores");
        Check.book(x, "3 10;");
        check.same("tired as told less the minute", x.fits(0), 1 << 1);
        Check.book(x, "20 5;");
        check.same("0 at least", x.fits(0), 1 << 5);
        Check.law(x, 0, "depth * 4");
        Check.book(x, "20 36;0 4;8 36;7 32;");
        check.same("depth is the minute and 1, 9 at most", x.fits(0), 1023);
        Check.law(x, 0, "minute + light + snores / 2 + heard + awake");
        Check.book(x, "6 15;");
        check.same("minute and light", x.fits(0), 1 << 4 | 1 << 5);
        Check.work(x, "again 5[minute;];");
        check.same("the night does not matter", x.fits(0), 1 << 4 | 1 << 5);
        Check.book(x, "6 15;7 15;");
        check.same("each line must fit", x.fits(0), 0);
        check.same("nothing fits: the first minute", x.listen(0, 0), 0);
        check.same("and nothing is left", x.listen(0, 1), 0);
        Check.book(x, "");
        Check.law(x, 0, "least[snores, minute]");
        check.same("listen as late as it tells all", x.listen(0, 0), 9);
        check.same("one is left", x.listen(0, 1), 1);
        Check.book(x, "2 2;");
        check.same("fits", x.fits(0), 1023 - 3);
        Check.book(x, "9 2;");
        check.same("one that fits: the first minute", x.listen(0, 0), 0);
        Check.law(x, 0, "snores / 5 * minute");
        Check.book(x, "0 0;");
        check.same("listen: in no line", x.listen(0, 0), 1);
        check.same("listen: at the worst", x.listen(0, 1), 5);
        Check.law(x, 0, "minute / 239 * snores");
        check.same("the last minute", x.listen(0, 0), 239);
        Check.law(x, 0, "minute / 240 * snores");
        check.same("there is no minute 240", x.listen(0, 1), 10);
        Check.book(x, "");
        Check.law(x, 0, "39 + snores / 2 * minute");
        check.same("40 at most is heard: two by 39, eight by 40", x.listen(0, 1), 8);
        Check.law(x, 0, "snores / 9 * 40");
        check.same("nine by 0, one by 40", x.listen(0, 1), 9);
        check.noSleeper("fits(1)", () -> x.fits(1));
        check.noSleeper("listen(1, 5)", () -> x.listen(1, 5));
        check.badArgument("listen(0, 2)", () -> x.listen(0, 2));
        check.badArgument("listen(0, -1)", () -> x.listen(0, -1));
    }

    private static void pausesAre(int q, int k, int n, long above, long below) {
        FirstAsleep x = new FirstAsleep();
        check.same("pauses(" + q + ", " + k + ", " + n + ", 0)", x.pauses(q, k, n, 0), above);
        check.same("pauses(" + q + ", " + k + ", " + n + ", 1)", x.pauses(q, k, n, 1), below);
    }

    private static void breaths() {
        pausesAre(8, 1, 3, 1, 1);
        pausesAre(4, 1, 1, 1, 4);
        pausesAre(4, 2, 3, 7, 64);
        pausesAre(16, 4, 12, 1, 1);
        pausesAre(0, 1, 12, 0, 1);
        pausesAre(15, 4, 3, 0, 1);
        pausesAre(15, 4, 4, 50625, 65536);
        pausesAre(15, 4, 12, 50625L * 24 / 8, 65536L * 16 / 8);
        pausesAre(1, 4, 12, 136 / 8, 1048576 / 8);
        FirstAsleep x = new FirstAsleep();
        check.same("doctor(1, 1)", x.doctor(1, 1), 16);
        check.same("doctor(1, 12)", x.doctor(1, 12), 2);
        check.same("doctor(1, 3)", x.doctor(1, 3), 8);
        check.same("doctor(4, 3)", x.doctor(4, 3), -1);
        check.same("doctor(4, 4)", x.doctor(4, 4), 16);
        check.same("doctor(1, 0)", x.doctor(1, 0), -1);
        int[][] bad = {{-1, 1, 1, 0}, {17, 1, 1, 0}, {1, 0, 1, 0}, {1, 5, 1, 0}, {1, 1, -1, 0}, {1, 1, 13, 0},
            {1, 1, 1, -1}, {1, 1, 1, 2}};
        for (int[] b : bad) {
            check.badArgument("pauses", () -> x.pauses(b[0], b[1], b[2], b[3]));
        }
        for (int[] b : new int[][] {{0, 1}, {5, 1}, {1, -1}, {1, 13}}) {
            check.badArgument("doctor", () -> x.doctor(b[0], b[1]));
        }
    }

    private static void wallsAndPlugs() {
        FirstAsleep x = Check.of("sleeper 40 0 9 0;sleeper 40 0 9 1;wall 3;");
        check.same("wall", x.wall(10), 17);
        check.same("wall of nothing", x.wall(1), 0);
        check.same("the wall stays", x.told(7), 3);
        check.same("and what is slept", x.slept(10), 0);
        FirstAsleep y = Check.of(PAIR);
        check.same("no wall helps in one room", y.wall(10), 0);
        check.same("plugs", y.plugs(0, 9, 10), 17);
        check.same("plugs for a minute", y.plugs(0, 1, 10), 17);
        check.same("plugs for nothing", y.plugs(0, 0, 10), 0);
        check.same("no plugs do", y.plugs(0, 10, 10), -1);
        check.same("the plugs stay", y.sleeper(0, 8), 0);
        Check.work(y, "minute;");
        check.same("one who sleeps gets them, too", y.plugs(1, 10, 10), 17);
    }

    private static void nightsBySeeds() {
        FirstAsleep x = Check.of("sleeper 40 0 0 0;");
        // 1 becomes 1,103,527,590; its bits 16 to 30 are 16838, by 16 there are 6 left
        check.same("below 6: none", x.nights(1, 6, 40, 1, 2), 0);
        check.same("below 7: a car", x.nights(1, 7, 40, 1, 2), 1);
        check.same("cars by 16", x.nights(77, 16, 0, 240, 2), 240);
        check.same("cars by 0", x.nights(77, 0, 0, 240, 2), 0);
        check.same("without noise", x.nights(77, 16, 0, 240, 0), 239);
        check.same("kept awake", x.nights(77, 16, 40, 5, 3), 0);
        // 9 loud: he falls (10 less 9), wakes, falls, wakes
        check.same("woke", x.nights(5, 16, 9, 4, 1), 2);
        check.same("slept", x.nights(5, 16, 9, 4, 0), 0);
        check.same("asleep then", x.nights(5, 16, 9, 3, 3), 1);
        check.same("awake then", x.nights(5, 16, 9, 4, 3), 0);
        FirstAsleep y = Check.of("sleeper 40 0 0 0;plug 0 8;");
        check.same("ahead of plugs", y.nights(5, 16, 9, 4, 0), 3);
        check.same("ahead of plugs: nobody woke", y.nights(5, 16, 9, 4, 1), 0);
        check.same("a negative seed", y.nights(-123456, 8, 9, 200, 2), carsOf(-123456, 8, 200));
        FirstAsleep z = atMinute("sleeper 40 0 0 0;", 238);
        check.same("cars for all n", z.nights(5, 16, 0, 240, 2), 240);
        check.same("cars drawn for all n", z.nights(5, 3, 0, 100, 2), carsOf(5, 3, 100));
        check.same("as far as there are minutes: slept", z.nights(5, 16, 0, 240, 0), 2);
        check.same("behind the last minute none wakes", z.nights(5, 16, 40, 240, 1), 1);
        FirstAsleep last = atMinute("sleeper 40 0 0 0;", 240);
        check.same("no minute left: cars", last.nights(-9, 5, 40, 50, 2), carsOf(-9, 5, 50));
        check.same("no minute left: slept", last.nights(-9, 16, 40, 50, 0), 0);
        check.same("no minute left: woke", last.nights(-9, 16, 40, 50, 1), 0);
        check.same("no minute left: asleep", last.nights(-9, 16, 40, 50, 3), 1);
        check.same("no minute left: span", last.span(-9, 20, 16, 40, 50, 2), 20);
    }

    private static int carsOf(int seed, int q, int n) {
        long s = Integer.toUnsignedLong(seed);
        int cars = 0;
        for (int i = 0; i < n; i++) {
            s = (s * 1103515245L + 12345L) % 4294967296L;
            cars += s / 65536 % 32768 % 16 < q ? 1 : 0;
        }
        return cars;
    }

    private static void spans() {
        FirstAsleep x = Check.of("sleeper 30 3 4 0;sleeper 24 5 3 1;wall 4;");
        Check.work(x, "minute;minute;minute;");
        for (int seed : new int[] {1, -7, Integer.MAX_VALUE - 3}) {
            int fewest = Integer.MAX_VALUE;
            int most = 0;
            int quiet = 0;
            for (int i = 0; i < 20; i++) {
                int sum = x.nights(seed + i, 1, 13, 40, 0);
                fewest = Math.min(fewest, sum);
                most = Math.max(most, sum);
                quiet += x.nights(seed + i, 1, 13, 40, 1) == 0 ? 1 : 0;
            }
            check.same("span: fewest", x.span(seed, 20, 1, 13, 40, 0), fewest);
            check.same("span: most", x.span(seed, 20, 1, 13, 40, 1), most);
            check.same("span: nobody woke", x.span(seed, 20, 1, 13, 40, 2), quiet);
            check.holds("the seeds differ", fewest < most);
        }
        check.same("one seed", x.span(9, 1, 3, 13, 40, 0), x.nights(9, 3, 13, 40, 0));
    }

    private static void nothingStaysChanged() {
        FirstAsleep x = Check.of("sleeper 12 3 5 0;sleeper 20 2 0 0;sleeper 4 9 9 1;wine 0 2;clock 3 6;owes 0 120;");
        Check.work(x, "again 7[minute;];call 0;turn 0;call 1;");
        String before = all(x);
        x.soon(2);
        x.slept(99);
        x.sleeps(1, 99);
        x.most(0);
        x.head(0, 9, 99);
        x.best(1, 99);
        x.hurry(0, 1, 8, 99, 0);
        x.reads(0, 1, 9, 9, 99);
        x.nudges(1, 2, 99, 0);
        x.rooms(99, 0);
        x.inTurns(7, 9);
        x.listen(0, 0);
        x.wall(99);
        x.plugs(0, 9, 99);
        x.nights(1, 8, 9, 99, 0);
        x.span(1, 9, 8, 9, 99, 0);
        x.changes(0);
        x.noise(0);
        x.loudest(0);
        check.holds("asked, nothing stays changed", before.equals(all(x)));
        check.same("slept is the same behind head", x.slept(50), fresh().slept(50));
    }

    private static FirstAsleep fresh() {
        FirstAsleep x = Check.of("sleeper 12 3 5 0;sleeper 20 2 0 0;sleeper 4 9 9 1;wine 0 2;clock 3 6;owes 0 120;");
        Check.work(x, "again 7[minute;];call 0;turn 0;call 1;");
        return x;
    }

    private static String all(FirstAsleep x) {
        StringBuilder b = new StringBuilder();
        for (int what = 0; what < 8; what++) {
            b.append(x.told(what)).append(' ');
        }
        for (int p = 0; p < x.told(0); p++) {
            for (int what = 0; what < 10; what++) {
                b.append(x.sleeper(p, what)).append(' ');
            }
        }
        return b.append(x.slept(40)).append(' ').append(x.count(2)).toString();
    }

    private static void bounds() {
        FirstAsleep x = Check.of(PAIR);
        check.noSleeper("head(2, 99, 999)", () -> x.head(2, 99, 999));
        check.noSleeper("best(-1, 999)", () -> x.best(-1, 999));
        check.noSleeper("sleeps(2, 999)", () -> x.sleeps(2, 999));
        check.noSleeper("reads(0, 2, 99, 0, 0)", () -> x.reads(0, 2, 99, 0, 0));
        check.noSleeper("reads(2, 2, 0, 0, 0)", () -> x.reads(2, 2, 0, 0, 0));
        check.noSleeper("nudges(2, 0, 999, 9)", () -> x.nudges(2, 0, 999, 9));
        check.noSleeper("plugs(2, 999, 9)", () -> x.plugs(2, 999, 9));
        check.noSleeper("hurry(0, 2, 9, 0, 0)", () -> x.hurry(0, 2, 9, 0, 0));
        for (int bad : new int[] {-1, 241, Integer.MIN_VALUE, Integer.MAX_VALUE}) {
            check.badArgument("slept", () -> x.slept(bad));
            check.badArgument("sleeps", () -> x.sleeps(0, bad));
            check.badArgument("head n", () -> x.head(0, 0, bad));
            check.badArgument("head h", () -> x.head(0, bad, 0));
            check.badArgument("best", () -> x.best(0, bad));
            check.badArgument("wall", () -> x.wall(bad));
            check.badArgument("plugs m", () -> x.plugs(0, bad, 0));
            check.badArgument("plugs n", () -> x.plugs(0, 0, bad));
            check.badArgument("most", () -> x.most(bad));
            check.badArgument("hurry what", () -> x.hurry(0, 1, 0, 0, bad));
            check.badArgument("nudges what", () -> x.nudges(0, 1, 0, bad));
            check.badArgument("rooms what", () -> x.rooms(0, bad));
            check.badArgument("nights n", () -> x.nights(0, 0, 0, bad, 0));
            check.badArgument("nights what", () -> x.nights(0, 0, 0, 1, bad));
            check.badArgument("span n", () -> x.span(0, 1, 0, 0, bad, 0));
            check.badArgument("span what", () -> x.span(0, 1, 0, 0, 1, bad));
            check.badArgument("span many", () -> x.span(0, bad, 0, 0, 1, 0));
            check.badArgument("nights q", () -> x.nights(0, bad, 0, 1, 0));
            check.badArgument("nights loud", () -> x.nights(0, 0, bad, 1, 0));
            check.badArgument("span q", () -> x.span(0, 1, bad, 0, 1, 0));
            check.badArgument("span loud", () -> x.span(0, 1, 0, bad, 1, 0));
        }
        nextToBounds(x);
    }

    private static void nextToBounds(FirstAsleep x) {
        check.badArgument("head(0, 31, 0)", () -> x.head(0, 31, 0));
        check.badArgument("most(2)", () -> x.most(2));
        check.badArgument("hurry k", () -> x.hurry(0, 1, 9, 0, 0));
        check.badArgument("hurry k", () -> x.hurry(0, 1, -1, 0, 0));
        check.badArgument("hurry n", () -> x.hurry(0, 1, 0, 121, 0));
        check.badArgument("hurry what", () -> x.hurry(0, 1, 0, 0, 3));
        check.badArgument("hurry of one", () -> x.hurry(1, 1, 0, 0, 0));
        check.badArgument("reads own", () -> x.reads(0, 1, 61, 0, 0));
        check.badArgument("reads its", () -> x.reads(0, 1, 0, 61, 0));
        check.badArgument("reads its", () -> x.reads(0, 1, 0, -1, 0));
        check.badArgument("reads n", () -> x.reads(0, 1, 0, 0, 121));
        check.badArgument("reads of one", () -> x.reads(1, 1, 0, 0, 0));
        check.badArgument("nudges n", () -> x.nudges(0, 1, 121, 0));
        check.badArgument("nudges what", () -> x.nudges(0, 1, 0, 2));
        check.badArgument("nudges of one", () -> x.nudges(1, 1, 0, 0));
        check.badArgument("rooms n", () -> x.rooms(121, 0));
        check.badArgument("rooms n", () -> x.rooms(-1, 0));
        check.badArgument("rooms what", () -> x.rooms(0, 2));
        check.badArgument("nights q", () -> x.nights(0, 17, 0, 1, 0));
        check.badArgument("nights loud", () -> x.nights(0, 0, 41, 1, 0));
        check.badArgument("nights n", () -> x.nights(0, 0, 0, 0, 0));
        check.badArgument("nights what", () -> x.nights(0, 0, 0, 1, 4));
        check.badArgument("span many", () -> x.span(0, 21, 0, 0, 1, 0));
        check.badArgument("span many", () -> x.span(0, 0, 0, 0, 1, 0));
        check.badArgument("span n", () -> x.span(0, 1, 0, 0, 0, 0));
        check.badArgument("span what", () -> x.span(0, 1, 0, 0, 1, 3));
        long refused = x.status(1);
        x.slept(240);
        x.head(0, 30, 240);
        x.best(1, 240);
        x.hurry(0, 1, 8, 120, 2);
        x.reads(0, 1, 60, 60, 120);
        x.nudges(0, 1, 120, 1);
        x.rooms(120, 1);
        x.wall(240);
        x.plugs(0, 240, 240);
        x.nights(Integer.MIN_VALUE, 16, 40, 240, 3);
        x.span(Integer.MAX_VALUE, 20, 16, 40, 240, 2);
        check.same("the bounds themselves are fine", x.status(1), refused);
    }
}
