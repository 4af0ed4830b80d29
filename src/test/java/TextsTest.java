/** Promises 1 to 7: a new object, the tape, and how the four kinds of text are read. */
public final class TextsTest {
    private static final Check check = new Check("TextsTest");

    public static void main(String[] args) {
        newObject();
        feed();
        houseAnswers();
        houseFaults();
        houseBeginsAnew();
        houseBounds();
        lawValues();
        lawFaults();
        lawBounds();
        workFaults();
        bookAnswersAndFaults();
        fault();
        check.end();
    }

    private static void newObject() {
        FirstAsleep x = new FirstAsleep();
        for (int what = 0; what < 7; what++) {
            check.same("a new object: told(" + what + ")", x.told(what), 0);
        }
        check.same("a new object: told(7)", x.told(7), 10);
        for (int what = 0; what < 3; what++) {
            check.same("a new object: count(" + what + ")", x.count(what), 0);
        }
        check.same("a new object: fault", x.fault(), FirstAsleep.NONE);
        check.same("NONE", FirstAsleep.NONE, -1);
        check.noSleeper("a new object: noise(0)", () -> x.noise(0));
    }

    private static void feed() {
        FirstAsleep x = new FirstAsleep();
        for (int i = 1; i <= 30; i++) {
            check.same("feed " + i, x.feed(0x77616c6c, 0x20313b20, 0x20202020, 0x20202020, 0x20202020), 20 * i);
        }
        check.same("feed over 600", x.feed(0, 0, 0, 0, 0), -1);
        check.same("the tape behind it", x.count(1), 600);
        check.same("house of 600 bytes (30 clauses)", x.house(600), 0);
        check.same("its wall", x.told(7), 1);
        check.same("the tape behind house", x.count(1), 0);
        // the highest byte of each number comes first: "wall 37;" and 12 blanks
        x.feed('w' << 24 | 'a' << 16 | 'l' << 8 | 'l', ' ' << 24 | '3' << 16 | '7' << 8 | ';', 0, 0, 0);
        check.same("house in the order of bytes", x.house(8), 0);
        check.same("its wall", x.told(7), 37);
        // bytes above 127 are bytes, too, and can stand nowhere
        x.feed(-1, -1, -1, -1, -1);
        check.same("house of bytes 255", x.house(1), -9);
    }

    private static void houseAnswers() {
        FirstAsleep x = new FirstAsleep();
        check.same("house without clauses", Check.house(x, ""), 0);
        check.same("house of blanks", Check.house(x, "   "), 0);
        check.same("blanks everywhere", Check.house(x, "  sleeper  1  2  3  1  ;  "), 1);
        check.same("tired", x.sleeper(0, 0), 1);
        check.same("light", x.sleeper(0, 1), 2);
        check.same("snores", x.sleeper(0, 2), 3);
        check.same("room", x.sleeper(0, 3), 1);
        check.same("no blank behind a word", Check.house(x, "sleeper60 20 9 0;wall40;over60;"), 1);
        check.same("wall at its most", x.told(7), 40);
        check.same("noughts ahead", Check.house(x, "sleeper 00000000000000000060 0 0 0;"), 1);
        check.same("tired with noughts ahead", x.sleeper(0, 0), 60);
        check.same("five sleepers", Check.house(x, Check.times("sleeper 0 0 0 0;", 5)), 5);
        check.same("the last of a kind counts", Check.house(x,
            "sleeper 9 9 9 1;sleeper 9 9 0 1;wine 0 3;wine 1 4;wine 0 5;cold 0 1;cold 0 2;plug 1 7;plug 1 8;wall 3;wall 4;"
            + "owes 0 9;owes 0 8;"), 2);
        check.same("loud by the last wine and cold", x.loud(0), 18 + 5 + 2);
        check.same("loud of the other", x.loud(1), 4);
        check.same("the last plugs", x.sleeper(1, 8), 8);
        check.same("the last wall", x.told(7), 4);
        check.same("the last owes", x.sleeper(0, 9), 8);
        check.same("clocks add up", Check.house(x, "clock 5 40;clock 5 3;clock 0 1;clock 59 2;clock 5 0;clock 6 9;"), 0);
        check.same("clock(5)", x.clock(5), 43);
        check.same("clock(239)", x.clock(239), 2);
        check.same("sixty clauses", Check.house(x, Check.times("wall 1;", 60)), 0);
    }

    private static void houseFault(String text, int kind, int place) {
        FirstAsleep x = Check.of("sleeper 7 0 0 0;wall 33;");
        check.same("house '" + text + "'", Check.house(x, text), kind - 10);
        check.same("fault of '" + text + "'", x.fault(), place);
        check.same("the house stays", x.told(0) * 100 + x.told(7), 133);
        check.same("the tape is empty", x.count(1), 0);
    }

    private static void houseFaults() {
        houseFault(";", 1, 0);
        houseFault("wall 1", 1, 6);
        houseFault("wall 1  ", 1, 8);
        houseFault("wall ;", 1, 5);
        houseFault("wall -1;", 1, 5);
        houseFault("wall 1;;", 1, 7);
        houseFault("walls 1;", 1, 0);
        houseFault(" Wall 1;", 1, 1);
        houseFault("wall 1 1;", 1, 7);
        houseFault("wall 1,", 1, 6);
        houseFault("sleeper 1 1 1;", 1, 13);
        houseFault("sleeper 61 x", 2, 8);
        houseFault("sleeper 99999999999999999999 0 0 0;", 2, 8);
        houseFault("sleeper 4294967296 0 0 0;", 2, 8);
        houseFault("sleeper 0 21 0 0;", 2, 10);
        houseFault("sleeper 0 0 10 0;", 2, 12);
        houseFault("sleeper 0 0 0 2;", 2, 14);
        houseFault("wine 0 0;sleeper 0 0 0 0;", 2, 5);
        houseFault("sleeper 0 0 0 0;cold 0 10;", 2, 23);
        houseFault("sleeper 0 0 0 0;wine 0 10;", 2, 23);
        houseFault("sleeper 0 0 0 0;cold 1 1;", 2, 21);
        houseFault("sleeper 0 0 0 0;plug 0 21;", 2, 23);
        houseFault("sleeper 0 0 0 0;owes 0 241;", 2, 23);
        houseFault("wall 41;", 2, 5);
        houseFault("over 0;", 2, 5);
        houseFault("over 61;", 2, 5);
        houseFault("clock 60 0;", 2, 6);
        houseFault("clock 0 41;", 2, 8);
        houseFault(Check.times("sleeper 0 0 0 0;", 5) + "  sleeper x", 3, 82);
        houseFault(Check.times("clock 0 0;", 6) + "clock 99", 3, 60);
        houseFault(Check.times("wall 1;", 60) + "wall 1;", 3, 420);
        houseFault(Check.times("wall 1;", 60) + "wall", 3, 420);
        houseFault(Check.times("wall 1;", 60) + "x", 1, 420);
        houseFault(Check.times("wall 1;", 60) + "7", 1, 420);
    }

    private static void houseBeginsAnew() {
        FirstAsleep x = Check.of("sleeper 40 0 9 0;");
        Check.law(x, 0, "7");
        Check.law(x, 1, "0");
        Check.book(x, "1 1;");
        Check.work(x, "minute;call 0;");
        x.image();
        check.same("ahead of a faulty house: refused steps", x.told(6), 1);
        check.same("a faulty house", Check.house(x, "x"), -9);
        check.same("its refused steps", x.told(6), 1);
        check.same("its images", x.count(0), 1);
        check.same("its works", x.count(2), 1);
        check.same("its minute", x.told(1), 1);
        check.same("its law", x.loud(0), 7);
        check.same("a new house", Check.house(x, "sleeper 40 0 9 0;"), 1);
        check.same("law 0 is gone", x.loud(0), 18);
        check.same("law 1 is gone", x.changes(0) ? 1 : 0, 1);
        check.same("the book is gone", x.told(5), 0);
        check.same("the works are gone", x.count(2), 0);
        check.same("nothing to undo", x.undo(), -1);
        check.same("the images are gone", x.count(0), 0);
        check.same("nothing to restore", x.restore(), -1);
        check.same("the minute", x.told(1), 0);
        check.same("refused steps", x.told(6), 0);
        check.same("tired as told", x.sleeper(0, 0), 40);
    }

    private static void houseBounds() {
        FirstAsleep x = new FirstAsleep();
        check.badArgument("house(1) on an empty tape", () -> x.house(1));
        check.badArgument("house(-1)", () -> x.house(-1));
        Check.feed(x, "wall 5;");
        check.badArgument("house(21)", () -> x.house(21));
        check.same("the tape stays", x.count(1), 20);
        check.same("house(7)", x.house(7), 0);
        check.same("status(1)", x.status(1), 3);
    }

    private static int lawValue(String text) {
        FirstAsleep x = Check.of("sleeper 0 0 0 0;");
        int answer = Check.law(x, 0, text);
        return answer == 1 ? x.would(3, 4, 5, 6, 70) : -1000 * answer;
    }

    private static void lawValues() {
        check.same("a number", lawValue("17"), 17);
        check.same("40 at most", lawValue("999"), 40);
        check.same("0 at least", lawValue("0-1"), 0);
        check.same("snores", lawValue("snores"), 3);
        check.same("wine", lawValue("wine"), 4);
        check.same("cold", lawValue("cold"), 5);
        check.same("depth", lawValue("depth"), 6);
        check.same("tired", lawValue("tired-50"), 20);
        check.same("heard is 0", lawValue("heard+1"), 1);
        check.same("awake is 0", lawValue("awake+2"), 2);
        check.same("light is 0", lawValue("light+3"), 3);
        check.same("minute is 0", lawValue("minute+4"), 4);
        check.same("* ahead of +", lawValue("1+2*3"), 7);
        check.same("from the left", lawValue("20-3-4"), 13);
        check.same("/ from the left", lawValue("36/3/2"), 6);
        check.same("* and / alike", lawValue("7/2*2"), 6);
        check.same("brackets", lawValue("(1+2)*3"), 9);
        check.same("/ cuts", lawValue("20+(0-7)/2"), 17);
        check.same("/ by 0", lawValue("5/(3-snores)+1"), 1);
        check.same("least", lawValue("least[snores+9, cold]"), 5);
        check.same("most", lawValue(" most [ 1 , least[30,20] ] "), 20);
        check.same("it wraps", lawValue("999*999*999*999/100000000"), -1000 * -8);
        int wrapped = 999 * 999 * 999 * 999 / 999 / 999 / 99;
        check.same("it wraps", lawValue("999*999*999*999/999/999/99"), Math.max(0, Math.min(40, wrapped)));
        int below = 999 * 999 * 999 * 999 * 999 / 999 / 999 / 99;
        check.same("it wraps again", lawValue("999*999*999*999*999/999/999/99"), Math.max(0, Math.min(40, below)));
        check.same("the least number by -1", lawValue("(0-2)*512*512*512*8*2/(0-1)+7"), 7);
        check.same("six open", lawValue("((((((8))))))"), 8);
        check.same("six open in the first place", lawValue("least[least[least[least[least[least[1,2],3],4],5],6],7]"), 1);
        check.same("opened again", lawValue("((((((1))))))+((((((2))))))"), 3);
        check.same("many open values",
            lawValue("1+1*least[99,1+1*least[99,1+1*least[99,1+1*least[99,1+1*least[99,1+1*least[99,1+1*2]]]]]]"), 9);
    }

    private static void lawFault(String text, int kind, int place) {
        FirstAsleep x = Check.of("sleeper 0 0 1 0;");
        Check.law(x, 0, "21");
        Check.law(x, 1, "5");
        for (int which = 0; which < 2; which++) {
            check.same("law '" + text + "'", Check.law(x, which, text), kind - 10);
            check.same("fault of '" + text + "'", x.fault(), place);
        }
        check.same("LOUD stays", x.loud(0), 21);
        check.holds("FALLS stays", x.changes(0));
    }

    private static void lawFaults() {
        lawFault("", 1, 0);
        lawFault("  ", 1, 2);
        lawFault("1+", 1, 2);
        lawFault("1 2", 1, 2);
        lawFault("-1", 1, 0);
        lawFault("1+*2", 1, 2);
        lawFault("(1", 1, 2);
        lawFault("1)", 1, 1);
        lawFault("()", 1, 1);
        lawFault("least(1,2)", 1, 5);
        lawFault("least[1]", 1, 7);
        lawFault("least[1,2", 1, 9);
        lawFault("most[1,2,3]", 1, 8);
        lawFault("snore", 1, 0);
        lawFault("snores snores", 1, 7);
        lawFault("1000", 2, 0);
        lawFault("1+1000x", 2, 2);
        lawFault("(((((((", 3, 6);
        lawFault("((((((least", 3, 6);
        lawFault("((( ((( most[1,2]", 3, 8);
        lawFault("least[1,least[1,least[1,least[1,least[1,least[1, ( 1", 3, 49);
        lawFault("((((((lest", 1, 6);
        lawFault("least[least[least[least[least[least[(1", 3, 36);
        lawFault("most[(most[(most[(most[1", 3, 18);
    }

    private static void lawBounds() {
        FirstAsleep x = Check.of("sleeper 0 0 1 0;");
        String longest = "1" + " ".repeat(149);
        check.same("a law of 150 bytes", Check.law(x, 0, longest), 1);
        Check.feed(x, longest + " ");
        check.badArgument("a law of 151 bytes", () -> x.law(0, 151));
        check.badArgument("law(2, 1)", () -> x.law(2, 1));
        check.badArgument("law(-1, 1)", () -> x.law(-1, 1));
        check.badArgument("law(0, -1)", () -> x.law(0, -1));
        check.same("the tape stays", x.count(1), 160);
        check.same("law(1, 1)", x.law(1, 1), 1);
        check.badArgument("law(1, 1) on an empty tape", () -> x.law(1, 1));
        check.same("status(1)", x.status(1), 5);
    }

    private static void workFault(String text, int kind, int place) {
        FirstAsleep x = Check.of("sleeper 40 0 0 0;sleeper 40 0 0 0;");
        check.same("work '" + text + "'", Check.work(x, text), kind - 10);
        check.same("fault of '" + text + "'", x.fault(), place);
        check.same("nothing is done", x.told(1), 0);
        check.same("there is no work", x.count(2), 0);
    }

    private static void workFaults() {
        workFault("minute", 1, 6);
        workFault("minute;;", 1, 7);
        workFault("minute;minutes;", 1, 7);
        workFault("minute 1;", 1, 7);
        workFault("nudge 0;", 1, 7);
        workFault("]", 1, 0);
        workFault("minute;];", 1, 7);
        workFault("again 1[minute];", 1, 14);
        workFault("again 1[minute;]", 1, 16);
        workFault("again 1[minute;", 1, 15);
        workFault("again 1 minute;", 1, 8);
        workFault("again[];", 1, 5);
        workFault("minute;nudge 0 2;", 2, 15);
        workFault("nudge 2 0;", 2, 6);
        workFault("turn 2;", 2, 5);
        workFault("room 2;", 2, 5);
        workFault("call 2;", 2, 5);
        workFault("plug 2 0;", 2, 5);
        workFault("plug 0 21;", 2, 7);
        workFault("again 61[];", 2, 6);
        workFault(Check.times("again 1[", 6) + "  again x", 3, 50);
        workFault(Check.times("again 1[", 6) + "x", 1, 48);
        FirstAsleep x = Check.of("sleeper 0 0 0 0;");
        check.same("six open at one time, twice",
            Check.work(x, Check.times("again 1[", 6) + "turn 0;" + Check.times("];", 6)), 1);
        check.same("all kinds without blanks", Check.work(x, "turn0;room0;plug0 1;minute;call0;nudge0 0;again0[];"), 4);
    }

    private static void bookFault(String text, int kind, int place) {
        FirstAsleep x = Check.of("sleeper 0 0 0 0;");
        Check.book(x, "7 7;8 8;9 9;");
        check.same("book '" + text + "'", Check.book(x, text), kind - 10);
        check.same("fault of '" + text + "'", x.fault(), place);
        check.same("the book stays", x.told(5), 3);
    }

    private static void bookAnswersAndFaults() {
        FirstAsleep x = Check.of("sleeper 0 0 0 0;");
        check.same("a book", Check.book(x, " 0 40 ; 239 0 ;"), 2);
        check.same("its lines", x.told(5), 2);
        check.same("eight lines", Check.book(x, "0 0;1 0;2 0;3 0;4 0;5 0;6 0;7 0;"), 8);
        check.same("a book without lines", Check.book(x, ""), 0);
        check.same("its lines", x.told(5), 0);
        bookFault("0", 1, 1);
        bookFault("0;", 1, 1);
        bookFault("0 0", 1, 3);
        bookFault("x 0;", 1, 0);
        bookFault("240 0;", 2, 0);
        bookFault("0 41;", 2, 2);
        bookFault("5 1; 05 1;", 2, 5);
        bookFault("5 1;5 x;", 2, 4);
        String eight = "0 0;1 0;2 0;3 0;4 0;5 0;6 0;7 0;";
        bookFault(eight + "8 0;", 3, 32);
        bookFault(eight + "8", 3, 32);
        bookFault(eight + "7 0;", 2, 32);
        bookFault(eight + "240 0;", 2, 32);
        bookFault(eight + "x", 1, 32);
        check.same("a book of 100 bytes", Check.book(x, "1 1;" + " ".repeat(96)), 1);
        Check.feed(x, " ".repeat(101));
        check.badArgument("a book of 101 bytes", () -> x.book(101));
        check.badArgument("book(-1)", () -> x.book(-1));
        check.same("the tape stays", x.count(1), 120);
    }

    private static void fault() {
        FirstAsleep x = new FirstAsleep();
        Check.house(x, "wall x");
        check.same("fault", x.fault(), 5);
        check.badArgument("no text", () -> x.book(1));
        check.same("fault stays without a text", x.fault(), 5);
        Check.book(x, "");
        check.same("the latest text has none", x.fault(), -1);
        Check.law(x, 1, "1 +");
        check.same("fault of a law", x.fault(), 3);
        Check.work(x, "");
        check.same("a work has none", x.fault(), -1);
    }
}
