/** Boundary cases of the texts: the first part of the terms, promises 1 to 7. */
final class EdgeTexts {
    private static final String ONE = "sleeper 0 0 0 0;";
    private static final String EIGHT_LINES = "0 0;1 0;2 0;3 0;4 0;5 0;6 0;7 0;";
    private static final int[] FAR = {Integer.MIN_VALUE, -1000, 1000, Integer.MAX_VALUE};

    private final Edge edge;
    private final Check check;

    EdgeTexts(Edge edge) {
        this.edge = edge;
        this.check = edge.check;
    }

    void run() {
        houseBytes();
        clauses();
        sleepers();
        sleeperNumbers();
        wineAndCold();
        plugAndOwes();
        wallAndOver();
        overMinutes();
        clocks();
        lastCounts();
        toldAhead();
        lawBytesAndEnd();
        loudWithin();
        fallsAboveNought();
        lawNumbers();
        noughtForLoud();
        wrapping();
        dividing();
        workText();
        bookText();
        numbersAndWords();
        faultPlaces();
        faultOfThreeKinds();
        sevenOpen();
        faultOfOnePlace();
        newObject();
        feed();
        house();
        law();
        work();
        sixteenWorks();
        book();
        fault();
    }

    private void houseIs(String text, int answer, int place) {
        FirstAsleep x = new FirstAsleep();
        edge.same("house '" + text + "'", Check.house(x, text), answer);
        edge.same("fault of house '" + text + "'", x.fault(), place);
    }

    private void lawIs(String text, int answer, int place) {
        for (int which = 0; which < 2; which++) {
            FirstAsleep x = new FirstAsleep();
            edge.same("law " + which + " '" + text + "'", Check.law(x, which, text), answer);
            edge.same("fault of law '" + text + "'", x.fault(), place);
        }
    }

    private void workIs(String text, int answer, int place) {
        FirstAsleep x = Check.of("sleeper 0 0 0 0;sleeper 0 0 0 0;");
        edge.same("work '" + text + "'", Check.work(x, text), answer);
        edge.same("fault of work '" + text + "'", x.fault(), place);
    }

    private void bookIs(String text, int answer, int place) {
        FirstAsleep x = new FirstAsleep();
        edge.same("book '" + text + "'", Check.book(x, text), answer);
        edge.same("fault of book '" + text + "'", x.fault(), place);
    }

    // ---- the house ----

    private void houseBytes() {
        edge.sentence(Edge.TERMS, "A HOUSE is a text of up to 600 bytes:");
        FirstAsleep x = new FirstAsleep();
        edge.same("600 bytes, read to the last", Check.house(x, " ".repeat(592) + "wall 33;"), 0);
        edge.same("its wall", x.told(7), 33);
        edge.same("a fault at the last byte", Check.house(x, " ".repeat(592) + "wall 33,"), -9);
        edge.same("its place", x.fault(), 599);
        edge.same("600 bytes that end too early", Check.house(x, " ".repeat(593) + "wall 33"), -9);
        edge.same("their length", x.fault(), 600);
        edge.same("no bytes", Check.house(x, ""), 0);
        edge.same("the wall without", x.told(7), 10);
    }

    private void clauses() {
        edge.sentence(Edge.TERMS, "{ CLAUSE \";\" }, at most 60.");
        houseIs("", 0, -1);
        houseIs("wall 1;", 0, -1);
        houseIs("wall 1;".repeat(59), 0, -1);
        houseIs("wall 1;".repeat(60), 0, -1);
        houseIs("wall 1;".repeat(60) + "  ", 0, -1);
        houseIs("wall 1;".repeat(61), -7, 420);
        houseIs("wall 1;".repeat(60) + "  over 1;", -7, 422);
        houseIs(ONE.repeat(5) + "clock 0 0;".repeat(6) + "over 1;".repeat(49), 5, -1);
        houseIs(ONE.repeat(5) + "clock 0 0;".repeat(6) + "over 1;".repeat(49) + "over 1;", -7, 80 + 60 + 343);
    }

    private void sleepers() {
        edge.sentence(Edge.TERMS, "(SLEEPERS, numbered from 0 on, 5 at most:");
        for (int many = 0; many <= 5; many++) {
            houseIs(ONE.repeat(many), many, -1);
        }
        houseIs(ONE.repeat(6), -7, 80);
        FirstAsleep x = Check.of("sleeper 10 0 0 0;sleeper 11 0 0 0;sleeper 12 0 0 0;sleeper 13 0 0 0;sleeper 14 0 0 0;");
        for (int p = 0; p < 5; p++) {
            edge.same("tired of " + p, x.sleeper(p, 0), 10 + p);
        }
    }

    private void sleeperNumbers() {
        edge.sentence(Edge.TERMS, "TIRED T, 0 to 60, LIGHT L, 0 to 20: what he hears and bears, SNORES S, 0 to 9, in ROOM R, 0 or 1)");
        FirstAsleep x = Check.of("sleeper 0 0 0 0;sleeper 60 20 9 1;");
        edge.is("the least", x, 0, "0 0 0 0 0 0 0 0 0 0");
        edge.is("the most", x, 1, "60 20 9 1 0 0 0 0 0 0");
        houseIs("sleeper 61 0 0 0;", -8, 8);
        houseIs("sleeper 0 21 0 0;", -8, 10);
        houseIs("sleeper 0 0 10 0;", -8, 12);
        houseIs("sleeper 0 0 0 2;", -8, 14);
    }

    private void wineAndCold() {
        edge.sentence(Edge.TERMS, "\"wine\" P N (P had N glasses, 0 to 9; 0 without), \"cold\" P N (0 to 9; 0 without)");
        for (String word : new String[] {"wine", "cold"}) {
            edge.same("loud without " + word, Check.of(ONE).loud(0), 0);
            edge.same("loud by " + word + " 0", Check.of(ONE + word + " 0 0;").loud(0), 0);
            edge.same("loud by " + word + " 9", Check.of(ONE + word + " 0 9;").loud(0), 9);
            houseIs(ONE + word + " 0 10;", -8, 23);
        }
        // each is of its own in a law
        FirstAsleep x = Check.of(ONE + "wine 0 9;cold 0 2;");
        Check.law(x, 0, "wine - cold");
        edge.same("wine less cold", x.loud(0), 7);
    }

    private void plugAndOwes() {
        edge.sentence(Edge.TERMS, "(P's plugs take K off what he hears, 0 to 20; 0 without)");
        edge.same("plugs without", Check.of(ONE).sleeper(0, 8), 0);
        edge.same("plugs by 0", Check.of(ONE + "plug 0 0;").sleeper(0, 8), 0);
        edge.same("plugs by 20", Check.of(ONE + "plug 0 20;").sleeper(0, 8), 20);
        houseIs(ONE + "plug 0 21;", -8, 23);
        edge.sentence(Edge.TERMS, "\"owes\" P N (P needs N MINUTES of sleep, 0 to 240; 0 without)");
        edge.same("needs without", Check.of(ONE).sleeper(0, 9), 0);
        edge.same("needs 0", Check.of(ONE + "owes 0 0;").sleeper(0, 9), 0);
        edge.same("needs 240", Check.of(ONE + "owes 0 240;").sleeper(0, 9), 240);
        houseIs(ONE + "owes 0 241;", -8, 23);
    }

    private void wallAndOver() {
        edge.sentence(Edge.TERMS, "\"wall\" W (a wall takes W off what comes from the other ROOM, 0 to 40; 10 without)");
        edge.same("the wall without", Check.of(ONE).told(7), 10);
        edge.same("a wall of 0", Check.of("wall 0;").told(7), 0);
        edge.same("a wall of 40", Check.of("wall 40;").told(7), 40);
        houseIs("wall 41;", -8, 5);
        // 40 loud, heard through each of these
        int[][] pairs = {{0, 40}, {1, 39}, {39, 1}, {40, 0}};
        for (int[] pair : pairs) {
            FirstAsleep x = Check.of("sleeper 4 0 9 0;sleeper 0 0 0 1;wall " + pair[0] + ";");
            Check.law(x, 0, "40");
            Check.work(x, "minute;");
            edge.same("40 through a wall of " + pair[0], x.noise(1), pair[1]);
        }
        FirstAsleep x = Check.of("sleeper 4 0 9 0;sleeper 0 0 0 1;");
        Check.work(x, "minute;");
        edge.same("18 through the wall without", x.noise(1), 8);
    }

    private void overMinutes() {
        edge.sentence(Edge.TERMS, "\"over\" B (one who lies on his side turns back B MINUTES later, 1 to 60; 9 without)");
        houseIs("over 0;", -8, 5);
        houseIs("over 61;", -8, 5);
        int[] all = {1, 2, 59, 60, 9};
        for (int i = 0; i < all.length; i++) {
            // the last is the one without
            FirstAsleep x = Check.of("sleeper 4 0 0 0;" + (i == all.length - 1 ? "" : "over " + all[i] + ";"));
            Check.work(x, "turn 0;minute;again " + (all[i] - 1) + "[minute;];");
            edge.same("on his side for " + (all[i] - 1), x.sleeper(0, 5), 1);
            Check.work(x, "minute;");
            edge.same("on his side for " + all[i], x.sleeper(0, 5), 0);
        }
    }

    private void clocks() {
        edge.sentence(Edge.TERMS, "in MINUTE M of each hour a clock strikes N loud in both ROOMS, 0 to 59, 0 to 40; 6 at most; of like ones all add up)");
        FirstAsleep x = Check.of("clock 0 40;clock 59 1;clock 30 0;");
        int[][] due = {{0, 40}, {1, 0}, {58, 0}, {59, 1}, {60, 40}, {61, 0}, {119, 1}, {120, 40}, {179, 1}, {180, 40},
            {239, 1}, {240, 40}, {30, 0}};
        for (int[] d : due) {
            edge.same("clock(" + d[0] + ")", x.clock(d[0]), d[1]);
        }
        houseIs("clock 60 0;", -8, 6);
        houseIs("clock 0 41;", -8, 8);
        houseIs("clock 0 0;".repeat(6), 0, -1);
        houseIs("clock 0 0;".repeat(7), -7, 60);
        edge.same("six of 40", Check.of("clock 7 40;".repeat(6)).clock(67), 240);
        FirstAsleep y = Check.of("sleeper 0 0 0 0;sleeper 0 0 0 1;clock 0 2;clock 0 3;");
        edge.same("in room 0", y.noise(0), 5);
        edge.same("in room 1", y.noise(1), 5);
    }

    private void lastCounts() {
        edge.sentence(Edge.TERMS, "of the same the last counts.");
        FirstAsleep x = Check.of("sleeper 4 20 0 0;sleeper 4 20 0 0;wine 0 9;wine 1 3;wine 0 0;cold 0 5;cold 0 1;"
            + "plug 0 20;plug 1 7;plug 0 0;wall 0;wall 40;over 1;over 2;owes 0 240;owes 1 6;owes 0 0;");
        edge.same("wine 0 and cold 1", x.loud(0), 1);
        edge.same("wine 3 of the other", x.loud(1), 3);
        edge.same("plugs", x.sleeper(0, 8), 0);
        edge.same("plugs of the other", x.sleeper(1, 8), 7);
        edge.same("wall", x.told(7), 40);
        edge.same("owes", x.sleeper(0, 9), 0);
        edge.same("owes of the other", x.sleeper(1, 9), 6);
        Check.work(x, "turn 0;minute;minute;");
        edge.same("over: not the first", x.sleeper(0, 5), 1);
        Check.work(x, "minute;");
        edge.same("over: the last", x.sleeper(0, 5), 0);
    }

    private void toldAhead() {
        edge.sentence(Edge.TERMS, "P: told ahead.");
        for (String word : new String[] {"wine", "cold", "plug", "owes"}) {
            houseIs(word + " 0 0;" + ONE, -8, 5);
            houseIs(ONE + word + " 1 0;" + ONE, -8, 21);
            houseIs(ONE + word + " 0 0;" + ONE + word + " 1 0;", 2, -1);
            houseIs(ONE.repeat(5) + word + " 4 0;", 5, -1);
            houseIs(ONE.repeat(5) + word + " 5 0;", -8, 85);
        }
    }

    // ---- laws ----

    private void lawBytesAndEnd() {
        edge.sentence(Edge.TERMS, "A LAW is a text of up to 150 bytes: E, at the end nothing more.");
        FirstAsleep x = new FirstAsleep();
        edge.same("150 bytes, read to the last", Check.law(x, 0, "1" + "+0".repeat(73) + "+12"), 1);
        edge.same("its value", x.would(0, 0, 0, 0, 0), 13);
        lawIs(" ".repeat(149) + "1", 1, -1);
        lawIs("1" + " ".repeat(149), 1, -1);
        lawIs(" ".repeat(149) + "x", -9, 149);
        lawIs("1;", -9, 1);
        lawIs("1 1", -9, 2);
        lawIs("1)", -9, 1);
        lawIs("1]", -9, 1);
        lawIs("1,1", -9, 1);
        lawIs("wine cold", -9, 5);
    }

    private void loudWithin() {
        edge.sentence(Edge.TERMS, "LOUD (without: snores * 2 + wine + cold): how loud one is who sleeps on his back, 0 at least, 40 at most.");
        FirstAsleep x = Check.of("sleeper 4 0 9 0;sleeper 0 0 0 0;wine 0 9;cold 0 9;");
        edge.same("the most without", x.loud(0), 36);
        edge.same("the least without", x.loud(1), 0);
        Check.work(x, "minute;");
        String[] laws = {"0 - 1", "0 - 999 * 999", "0", "1", "39", "40", "41", "999 * 999"};
        int[] due = {0, 0, 0, 1, 39, 40, 40, 40};
        for (int i = 0; i < laws.length; i++) {
            Check.law(x, 0, laws[i]);
            edge.same("loud by " + laws[i], x.loud(0), due[i]);
            edge.same("would by " + laws[i], x.would(0, 0, 0, 0, 0), due[i]);
            edge.same("heard by " + laws[i], x.noise(1), due[i]);
        }
    }

    private void fallsAboveNought() {
        edge.sentence(Edge.TERMS, "FALLS (without: tired / 4 - heard): one who is awake falls asleep, if it is above 0.");
        String[] laws = {"0 - 999", "0 - 1", "0", "1", "2", "999"};
        for (int i = 0; i < laws.length; i++) {
            FirstAsleep x = Check.of(ONE);
            Check.law(x, 1, laws[i]);
            edge.same("falls by " + laws[i], x.changes(0) ? 1 : 0, i > 2 ? 1 : 0);
            Check.work(x, "minute;");
            edge.same("sleeps by " + laws[i], x.sleeper(0, 4), i > 2 ? 1 : 0);
        }
        // tired, what strikes, whether he falls asleep
        int[][] without = {{0, 0, 0}, {3, 0, 0}, {4, 0, 1}, {4, 1, 0}, {7, 1, 0}, {8, 1, 1}, {60, 14, 1}, {60, 15, 0}};
        for (int[] w : without) {
            FirstAsleep x = Check.of("sleeper " + w[0] + " 0 0 0;clock 0 " + w[1] + ";");
            edge.same("without, tired by " + w[0] + ", heard " + w[1], x.changes(0) ? 1 : 0, w[2]);
        }
    }

    private void lawNumbers() {
        edge.sentence(Edge.TERMS, "U: N (0 to 999)");
        lawIs("0", 1, -1);
        lawIs("999", 1, -1);
        lawIs("1000", -8, 0);
        lawIs("1 + 1000", -8, 4);
        lawIs("0000999", 1, -1);
        lawIs("0001000", -8, 0);
        FirstAsleep x = new FirstAsleep();
        Check.law(x, 0, "999 - 998");
        edge.same("999 - 998", x.would(0, 0, 0, 0, 0), 1);
    }

    private void noughtForLoud() {
        edge.sentence(Edge.TERMS, "\"heard\" (0 for LOUD)");
        FirstAsleep x = Check.of("sleeper 0 0 0 0;clock 0 9;clock 1 9;");
        Check.law(x, 0, "heard + 3");
        edge.same("he hears 9, loud", x.loud(0), 3);
        edge.same("would", x.would(0, 0, 0, 0, 0), 3);
        Check.law(x, 1, "heard - 8");
        edge.same("FALLS hears 9", x.changes(0) ? 1 : 0, 1);
        Check.law(x, 1, "heard - 9");
        edge.same("FALLS hears no more", x.changes(0) ? 1 : 0, 0);
        edge.same("loud, whatever was asked ahead", x.loud(0), 3);
        edge.same("FALLS hears it again", x.changes(0) ? 1 : 0, 0);
        edge.same("would, whatever was asked ahead", x.would(0, 0, 0, 0, 0), 3);
        edge.sentence(Edge.TERMS, "\"awake\" (MINUTES he has been awake one behind the other; 0 for LOUD)");
        Check.law(x, 0, "awake + 4");
        Check.law(x, 1, "awake - 2");
        edge.same("awake for 0", x.loud(0), 4);
        Check.work(x, "minute;minute;");
        edge.same("awake for 2, loud", x.loud(0), 4);
        edge.same("he will sleep soon, awake for 3", x.soon(0), 2);
        edge.same("would, whatever was asked ahead", x.would(0, 0, 0, 0, 0), 4);
        edge.same("loud, whatever was asked ahead", x.loud(0), 4);
        Check.law(x, 0, "heard + awake + 5");
        edge.same("asked ahead", x.soon(0), 2);
        edge.same("neither for LOUD", x.loud(0), 5);
        Check.book(x, "0 5;");
        edge.same("nor for FITS", x.fits(0), 1023);
        edge.same("awake for 2, FALLS", x.changes(0) ? 1 : 0, 0);
        Check.work(x, "minute;");
        edge.same("awake for 3, FALLS", x.changes(0) ? 1 : 0, 1);
    }

    private static int would(String law) {
        FirstAsleep x = new FirstAsleep();
        return Check.law(x, 0, law) == 1 ? x.would(0, 0, 0, 0, 0) : -1000;
    }

    private void wrapping() {
        edge.sentence(Edge.TERMS, "Values are whole numbers of 32 bits that wrap;");
        // 2^31 is 128 * 128 * 128 * 128 * 8
        String half = "128*128*128*128";
        edge.same("2^31 - 1 is above", would(half + "*4-1+" + half + "*4"), 40);
        edge.same("2^31 is below", would(half + "*8"), 0);
        edge.same("2^31 less 1 is above again", would(half + "*8-1"), 40);
        edge.same("2^31 - 1 and 1 is below", would(half + "*4-1+" + half + "*4+1"), 0);
        edge.same("2^32 is 0", would(half + "*16+7"), 7);
        edge.same("-2^31 by -1 is itself", would(half + "*8/(0-1)+" + half + "*8+9"), 9);
        edge.same("-2^31 less 1 is 2^31 - 1", would("0-" + half + "*8-1"), 40);
        edge.same("least of wrapped ones", would("least[" + half + "*8,5]+" + half + "*8+3"), 3);
        edge.same("most of wrapped ones", would("most[" + half + "*8,5]"), 5);
        // what wraps can fall asleep or not
        FirstAsleep x = Check.of(ONE);
        Check.law(x, 1, half + "*8");
        edge.same("FALLS by 2^31", x.changes(0) ? 1 : 0, 0);
        Check.law(x, 1, half + "*8-1");
        edge.same("FALLS by 2^31 - 1", x.changes(0) ? 1 : 0, 1);
    }

    private void dividing() {
        edge.sentence(Edge.TERMS, "/ cuts, by 0 it is 0.");
        edge.same("7 / 2", would("7/2"), 3);
        edge.same("-7 / 2", would("(0-7)/2+10"), 7);
        edge.same("7 / -2", would("7/(0-2)+10"), 7);
        edge.same("-7 / -2", would("(0-7)/(0-2)"), 3);
        edge.same("1 / 2", would("1/2"), 0);
        edge.same("7 / 0", would("7/0+5"), 5);
        edge.same("-7 / 0", would("(0-7)/0+5"), 5);
        edge.same("0 / 0", would("0/0+5"), 5);
        edge.same("by what becomes 0", would("9/(wine-cold)+5"), 5);
    }

    // ---- work and book ----

    private void workText() {
        edge.sentence(Edge.TERMS, "WORK is a text of up to 150 bytes: { STEP \";\" }.");
        FirstAsleep x = Check.of(ONE);
        edge.same("150 bytes, read to the last", Check.work(x, " ".repeat(143) + "room 0;"), 1);
        edge.same("it is done", x.sleeper(0, 3), 1);
        workIs(" ".repeat(143) + "room 0,", -9, 149);
        workIs("", 0, -1);
        workIs("   ", 0, -1);
        edge.sentence(Edge.TERMS, "\"plug\" P K (0 to 20)");
        workIs("plug 0 1;plug 0 0;", 2, -1);
        workIs("plug 0 20;", 1, -1);
        workIs("plug 0 21;", -8, 7);
        workIs("plug 1 20;", 1, -1);
        workIs("plug 2 20;", -8, 5);
        edge.sentence(Edge.TERMS, "\"again\" N \"[\" { STEP \";\" } \"]\" (N 0 to 60).");
        workIs("again 0[turn 0;];", 0, -1);
        workIs("again 1[turn 0;];", 1, -1);
        workIs("again 60[turn 0;];", 60, -1);
        workIs("again 61[turn 0;];", -8, 6);
        workIs("again 60[];", 0, -1);
        workIs("again 0[turn 2;];", -8, 13);
    }

    private void bookText() {
        edge.sentence(Edge.TERMS, "A BOOK is one of up to 100 bytes: { M N \";\" }, 8 lines at most, no M twice: in MINUTE M (0 to 239) one was N loud (0 to 40).");
        bookIs("", 0, -1);
        bookIs(" ".repeat(96) + "7 7;", 1, -1);
        bookIs(" ".repeat(96) + "7 7,", -9, 99);
        bookIs("0 0;239 40;", 2, -1);
        bookIs("240 0;", -8, 0);
        bookIs("0 41;", -8, 2);
        bookIs(EIGHT_LINES, 8, -1);
        bookIs(EIGHT_LINES + "8 0;", -7, 32);
        bookIs("7 1;8 1;7 1;", -8, 8);
        bookIs("7 1;8 1;007 2;", -8, 8);
        bookIs("7 8;8 7;", 2, -1);
    }

    private void numbersAndWords() {
        edge.sentence(Edge.TERMS, "Numbers: digits, as many as stand there; WORDS: small letters, as many as stand there; blanks (32) may stand ahead of all these, and at the end.");
        houseIs("wall " + "0".repeat(500) + "7;", 0, -1);
        houseIs("wall " + "9".repeat(500) + ";", -8, 5);
        houseIs("wall 1 0;", -9, 7);
        houseIs("wall 4294967297;", -8, 5);
        houseIs("wall 18446744073709551617;", -8, 5);
        houseIs("wallwall 1;", -9, 0);
        houseIs("wal l 1;", -9, 0);
        houseIs("wall1;over1;", 0, -1);
        houseIs("WALL 1;", -9, 0);
        houseIs("walL 1;", -9, 0);
        houseIs("mall 1;", -9, 0);
        houseIs("walls 1;", -9, 0);
        houseIs("wallz 1;", -9, 0);
        houseIs("walla 1;", -9, 0);
        houseIs(" ".repeat(596) + "walz", -9, 596);
        houseIs(" ".repeat(596) + "wall", -9, 600);
        houseIs("  wall  1  ;  over  1  ;  ", 0, -1);
        houseIs("sleeper0 0 0 0;wine0 0;", 1, -1);
        lawIs(" least [ 1 , ( 2 ) ] + most [ 3 , 4 ] * 5 ", 1, -1);
        lawIs("leastmost[1,2]", -9, 0);
        workIs(" again 2 [ turn 0 ; ] ; ", 2, -1);
        workIs("minuteminute;", -9, 0);
        bookIs(" 1  2 ; ", 1, -1);
        // no other sign is a blank
        for (int sign : new int[] {0, 9, 10, 13, 160, 255}) {
            houseIs("wall" + (char) sign + "1;", -9, 4);
            houseIs("wall 1;" + (char) sign, -9, 7);
        }
        // the signs next to digits and small letters
        houseIs("wall 1/;", -9, 6);
        houseIs("wall 1:;", -9, 6);
        houseIs("wall` 1;", -9, 4);
        houseIs("wall{ 1;", -9, 4);
    }

    // ---- faults ----

    private void faultPlaces() {
        edge.sentence(Edge.TERMS, "FAULTS, the first from the left, at its first byte: 1 what can't stand there (at the length, if the text ends too early);");
        houseIs("wall 41;over 0;x", -8, 5);
        houseIs("x;wall 41;", -9, 0);
        houseIs("wall 1,wall 41;", -9, 6);
        houseIs("  xyz", -9, 2);
        houseIs("wall", -9, 4);
        houseIs("wall   ", -9, 7);
        houseIs("wall 1", -9, 6);
        houseIs("sleeper 1 1 1", -9, 13);
        lawIs("", -9, 0);
        lawIs("   ", -9, 3);
        lawIs("1 + ", -9, 4);
        lawIs("(1", -9, 2);
        lawIs("1*", -9, 2);
        lawIs("1*x", -9, 2);
        lawIs("1/ 2+", -9, 5);
        lawIs("2*1000", -8, 2);
        lawIs("least", -9, 5);
        lawIs("least[1", -9, 7);
        lawIs("least[1,", -9, 8);
        workIs("again", -9, 5);
        workIs("again 1", -9, 7);
        workIs("again 1[", -9, 8);
        workIs("again 1[]", -9, 9);
        workIs("nudge 0", -9, 7);
        workIs("];", -9, 0);
        bookIs("1", -9, 1);
        bookIs("1 1", -9, 3);
        // it ends where it was said to end, whatever lies behind
        FirstAsleep x = new FirstAsleep();
        Check.feed(x, "wall 1;");
        edge.same("six of seven bytes", x.house(6), -9);
        edge.same("their length", x.fault(), 6);
        Check.feed(x, "wall 1;");
        edge.same("three of the letters: no word", x.house(3), -9);
        edge.same("its place", x.fault(), 0);
        Check.feed(x, "wall 12;");
        edge.same("one of the digits", x.house(6), -9);
        edge.same("their length", x.fault(), 6);
    }

    private void faultOfThreeKinds() {
        edge.sentence(Edge.TERMS, "2 a number that is none such (an M twice);");
        houseIs("  wall  99;", -8, 8);
        lawIs("wine+ 1000", -8, 6);
        for (String word : new String[] {"turn", "room", "call"}) {
            workIs("minute;" + word + " 2;", -8, 12);
        }
        workIs("turn 99999999999;", -8, 5);
        workIs("nudge 0 2;", -8, 8);
        workIs("nudge 2 0;", -8, 6);
        workIs("nudge 1 0;nudge 0 1;", 0, -1);
        bookIs("1 1;2 2; 1 x", -8, 9);
        FirstAsleep nobody = new FirstAsleep();
        edge.same("of no sleepers none is told", Check.work(nobody, "call 0;"), -8);
        edge.same("its place", nobody.fault(), 5);
        edge.sentence(Edge.TERMS, "3 a CLAUSE, SLEEPER or clock (at its word), a line (at its M) too many,");
        houseIs("wall 1;".repeat(60) + " wall 99", -7, 421);
        houseIs(ONE.repeat(5) + " sleeper 99", -7, 81);
        houseIs("clock 0 0;".repeat(6) + " clock 99", -7, 61);
        bookIs(EIGHT_LINES + " 8 99", -7, 33);
        bookIs(EIGHT_LINES + " 8", -7, 33);
        bookIs(EIGHT_LINES + " ", 8, -1);
    }

    private void sevenOpen() {
        edge.sentence(Edge.TERMS, "or a 7th of ( least most again that is open at one time;");
        lawIs("((((((1))))))", 1, -1);
        lawIs("(((((((1)))))))", -7, 6);
        lawIs("(((((( (", -7, 7);
        lawIs("least[1,most[1,least[1,most[1,least[1,most[1,2]]]]]]", 1, -1);
        lawIs("least[1,most[1,least[1,most[1,least[1,most[1,least", -7, 45);
        lawIs("least[1,most[1,least[1,most[1,least[1,most[1,(2", -7, 45);
        lawIs("((((((most", -7, 6);
        lawIs("((((((1))))))*((((((1))))))", 1, -1);
        lawIs("(((((1)*(1)*(1)))))", 1, -1);
        lawIs("least[(((((1))))),(((((2)))))]", 1, -1);
        lawIs("least[(((((1))))),((((((2))))))]", -7, 23);
        lawIs("least[((((((1))))))", -7, 11);
        lawIs("most[least[least[least[least[least[(1", -7, 35);
        workIs("again 1[".repeat(6) + "turn 0;" + "];".repeat(6), 1, -1);
        workIs("again 1[".repeat(7), -7, 48);
        workIs("again 1[".repeat(6) + "];again 1[];" + "];".repeat(5), 0, -1);
        workIs("again 1[".repeat(6) + " again 99", -7, 49);
    }

    private void faultOfOnePlace() {
        edge.sentence(Edge.TERMS, "of one the least.");
        houseIs("wall 1;".repeat(60) + "walls 1;", -9, 420);
        houseIs("wall 1;".repeat(60) + ";", -9, 420);
        bookIs(EIGHT_LINES + "7 0;", -8, 32);
        bookIs(EIGHT_LINES + "240 0;", -8, 32);
        bookIs(EIGHT_LINES + ";", -9, 32);
        lawIs("((((((mos", -9, 6);
        lawIs("((((((1000", -8, 6);
        workIs("again 1[".repeat(6) + "agains", -9, 48);
    }

    // ---- promises 1 to 7 ----

    private void newObject() {
        edge.sentence(1, "A HOUSE without CLAUSES.");
        FirstAsleep x = new FirstAsleep();
        FirstAsleep told = Check.of("");
        edge.stays("like one whose house is told without clauses", Edge.all(told), x);
        edge.same("no bytes", x.count(1), 0);
        edge.same("no fault", x.fault(), -1);
        edge.same("nobody refused: 0", x.status(0), 0);
        edge.same("nobody refused: 1", x.status(1), 0);
        check.noSleeper("sleeper(0, 0)", () -> x.sleeper(0, 0));
        edge.same("nobody sleeps", x.most(1), 0);
        edge.same("nobody is in a room", x.rooms(120, 1), 0);
        edge.same("nobody needs a wall", x.wall(240), 0);
        edge.same("cars pass all the same", x.nights(1, 16, 40, 7, 2), 7);
        check.badArgument("no two take turns", () -> x.inTurns(3, 1));
        edge.same("minutes pass", Check.work(x, "again 3[minute;];"), 3);
        edge.same("the minute", x.told(1), 3);
        edge.same("undo", x.undo(), 0);
    }

    private void feed() {
        edge.sentence(2, "Twenty bytes come on the TAPE, of each number the highest first: how many there are; NONE, doing nothing, if there would be more than 600.");
        FirstAsleep x = new FirstAsleep();
        // 'wall 12;over 3;' and blanks, each number with its highest byte first
        edge.same("the first", x.feed(0x77616c6c, 0x2031323b, 0x6f766572, 0x20333b20, 0x20202020), 20);
        for (int i = 2; i <= 30; i++) {
            edge.same("feed " + i, x.feed(0x20202020, 0x20202020, 0x20202020, 0x20202020, 0x20202020), 20 * i);
        }
        for (int i = 0; i < 3; i++) {
            edge.same("more than 600", x.feed(-1, 0, 1, Integer.MIN_VALUE, Integer.MAX_VALUE), -1);
            edge.same("still 600", x.count(1), 600);
        }
        edge.same("it is no refusal", x.status(1), 0);
        edge.same("all are as they were", x.house(600), 0);
        edge.same("the wall", x.told(7), 12);
        edge.same("there is room again", x.feed(0, 0, 0, 0, 0), 20);
        // bytes of 128 and more are bytes, too
        FirstAsleep y = new FirstAsleep();
        y.feed(0xf7616c6c, 0x20313b20, 0, 0, 0);
        edge.same("a byte of 247", y.house(7), -9);
        edge.same("its place", y.fault(), 0);
    }

    private static FirstAsleep rich() {
        FirstAsleep x = Check.of("sleeper 40 0 9 0;sleeper 8 3 2 1;owes 0 9;wall 33;");
        Check.law(x, 0, "snores + 1");
        Check.law(x, 1, "tired / 5 - heard");
        Check.book(x, "1 1;2 2;");
        Check.work(x, "minute;call 1;");
        x.image();
        Check.work(x, "again 5[minute;];call 1;call 1;");
        return x;
    }

    private void house() {
        edge.sentence(3, "The first n bytes of the TAPE (empty then) are the HOUSE (no LAWS, BOOK, IMAGES, nothing to undo): how many SLEEPERS;");
        FirstAsleep x = rich();
        Check.feed(x, "wall 7;wall 8;");
        edge.same("seven bytes of twenty", x.house(7), 0);
        edge.same("the wall", x.told(7), 7);
        edge.same("all are gone", x.count(1), 0);
        FirstAsleep y = rich();
        Check.feed(y, "wall 7;");
        edge.same("no bytes of twenty", y.house(0), 0);
        edge.same("all are gone", y.count(1), 0);
        edge.stays("nothing is left of the house ahead", Edge.all(new FirstAsleep()), y);
        edge.same("nothing to undo", y.undo(), -1);
        edge.same("nothing to restore", y.restore(), -1);
        edge.same("no LOUD", y.would(9, 0, 0, 0, 0), 18);
        FirstAsleep z = rich();
        Check.house(z, "sleeper 4 0 0 0;");
        edge.same("no FALLS", z.changes(0) ? 1 : 0, 1);
        edge.same("no BOOK", z.fits(0), 1023);
        edge.is("nothing of his night", z, 0, "4 0 0 0 0 0 0 0 0 0");
        houseBehindHouse();

        edge.sentence(3, "or the FAULT less 10 (all stays).");
        String[] faulty = {"wall 5", "wall 41;", ONE.repeat(6)};
        for (int kind = 1; kind <= 3; kind++) {
            FirstAsleep w = rich();
            String before = Edge.all(w);
            edge.same("a fault of kind " + kind, Check.house(w, faulty[kind - 1]), kind - 10);
            edge.stays("all stays", before, w);
            edge.same("fits as ahead", w.fits(0), rich().fits(0));
            edge.same("the tape is empty", w.count(1), 0);
            edge.same("the image is there", w.restore(), 0);
        }

        edge.sentence(3, "IllegalArgumentException: n is not 0 to the TAPE's bytes (it stays).");
        FirstAsleep v = rich();
        check.badArgument("house(1) of none", () -> v.house(1));
        check.badArgument("house(-1) of none", () -> v.house(-1));
        Check.feed(v, "wall 7;");
        String before = Edge.all(v);
        edge.same("two are counted", v.status(1), 2);
        check.badArgument("house(21) of 20", () -> v.house(21));
        check.badArgument("house(-1) of 20", () -> v.house(-1));
        for (int far : FAR) {
            check.badArgument("house(" + far + ")", () -> v.house(far));
        }
        edge.stays("all stays", before, v);
        edge.same("six more are counted", v.status(1), 8);
        edge.same("20 are there", v.count(1), 20);
        edge.same("and can be read", v.house(7), 0);
        edge.same("all of 20", houseOfAllBytes(), 0);
    }

    private void houseBehindHouse() {
        FirstAsleep x = new FirstAsleep();
        String all = "sleeper 4 1 2 1;wine 0 1;cold 0 2;plug 0 3;owes 0 4;wall 5;over 1;";
        String clocks = "clock 0 1;clock 59 2;clock 7 3;clock 8 4;clock 9 5;clock 10 6;";
        for (int i = 0; i < 3; i++) {
            edge.same("six clocks each time", Check.house(x, all + clocks), 1);
            edge.same("a fault behind them", Check.house(x, clocks + "clock 0 1;"), -7);
        }
        edge.same("the least of a house", Check.house(x, "sleeper 4 0 0 0;"), 1);
        edge.is("nothing is left but what was told", x, 0, "4 0 0 0 0 0 0 0 0 0");
        edge.same("no wine, no cold", x.loud(0), 0);
        edge.same("the wall without", x.told(7), 10);
        for (int minute : new int[] {0, 59, 7, 8, 9, 10, 240}) {
            edge.same("no clock in " + minute, x.clock(minute), 0);
        }
        Check.work(x, "turn 0;again 9[minute;];");
        edge.same("over without: not yet", x.sleeper(0, 5), 1);
        Check.work(x, "minute;");
        edge.same("over without", x.sleeper(0, 5), 0);
    }

    private static int houseOfAllBytes() {
        FirstAsleep x = new FirstAsleep();
        Check.feed(x, "wall 7;             ");
        return x.house(20);
    }

    private void law() {
        edge.sentence(4, "Likewise a LAW (0 LOUD, 1 FALLS; n to 150): 1.");
        FirstAsleep x = Check.of(ONE);
        edge.same("LOUD", Check.law(x, 0, "17"), 1);
        edge.same("it is LOUD", x.loud(0), 17);
        edge.same("it is not FALLS", x.changes(0) ? 1 : 0, 0);
        edge.same("FALLS", Check.law(x, 1, "18"), 1);
        edge.same("it is FALLS", x.changes(0) ? 1 : 0, 1);
        edge.same("it is not LOUD", x.loud(0), 17);
        edge.same("a faulty one", Check.law(x, 0, "1000"), -8);
        edge.same("another", Check.law(x, 1, "(((((((0"), -7);
        edge.same("another", Check.law(x, 1, "0 0"), -9);
        edge.same("LOUD stays", x.loud(0), 17);
        edge.same("FALLS stays", x.changes(0) ? 1 : 0, 1);
        Check.feed(x, "3" + " ".repeat(159));
        int refused = x.status(1);
        for (int n : new int[] {-1, 151, 160, 161, Integer.MIN_VALUE, Integer.MAX_VALUE}) {
            check.badArgument("law(0, " + n + ")", () -> x.law(0, n));
            check.badArgument("law(1, " + n + ")", () -> x.law(1, n));
        }
        edge.same("each is counted", x.status(1), refused + 12);
        edge.same("the tape stays", x.count(1), 160);
        edge.same("150 of 160", x.law(0, 150), 1);
        edge.same("the tape is empty", x.count(1), 0);
        edge.same("a law is no work", x.count(2), 0);
        edge.same("LOUD is another", x.loud(0), 3);
        check.badArgument("law(0, 1) of none", () -> x.law(0, 1));
        edge.same("law(0, 0) of none is a fault", x.law(0, 0), -9);

        edge.sentence(4, "IllegalArgumentException also: another which.");
        Check.feed(x, "1");
        edge.bounds(x, "which", 0, 1, which -> {
            if (x.count(1) == 0) {
                Check.feed(x, "1");
            }
            return x.law(which, 1);
        });
        Check.feed(x, "1");
        check.badArgument("law(2, 1)", () -> x.law(2, 1));
        edge.same("the tape stays", x.count(1), 40);
    }

    private void work() {
        edge.sentence(5, "Likewise WORK (n to 150), which is done: how many STEPS were done (agains not counted, nor REFUSED ones);");
        FirstAsleep x = Check.of(ONE);
        edge.same("none of an empty one", Check.work(x, ""), 0);
        edge.same("which is a work", x.count(2), 1);
        edge.same("agains", Check.work(x, "again 3[again 2[];turn 0;];"), 3);
        edge.same("refused ones", Check.work(x, "call 0;plug 0 0;nudge 0 0;room 0;"), 1);
        edge.same("so many", x.told(6), 3);
        Check.feed(x, "room 0;" + " ".repeat(153));
        int refused = x.status(1);
        for (int n : new int[] {-1, 151, 160, 161, Integer.MIN_VALUE, Integer.MAX_VALUE}) {
            check.badArgument("work(" + n + ")", () -> x.work(n));
        }
        edge.same("each is counted", x.status(1), refused + 6);
        edge.same("the tape stays", x.count(1), 160);
        edge.same("nothing was done", x.count(2), 3);
        edge.same("150 of 160", x.work(150), 1);
        edge.same("the tape is empty", x.count(1), 0);

        edge.sentence(5, "or the FAULT less 10 (none is);");
        String[] faulty = {"turn 0;minute;x", "turn 0;minute;turn 1;", "turn 0;" + "again 1[".repeat(7)};
        for (int kind = 1; kind <= 3; kind++) {
            FirstAsleep y = Check.of(ONE);
            Check.work(y, "minute;call 0;");
            String before = Edge.all(y);
            edge.same("a fault of kind " + kind, Check.work(y, faulty[kind - 1]), kind - 10);
            edge.stays("none is done", before, y);
            edge.same("the tape is empty", y.count(1), 0);
        }
    }

    private void sixteenWorks() {
        edge.sentence(5, "-20 ahead of that (nothing is read, there is no FAULT, the TAPE is empty then): 16 WORKS are there that were not undone.");
        FirstAsleep x = Check.of(ONE);
        for (int i = 1; i <= 16; i++) {
            edge.same("work " + i, Check.work(x, i % 2 == 0 ? "" : "room 0;call 0;"), i % 2);
        }
        Check.house(x, "wall 99;");
        edge.same("the latest text has a fault", x.fault(), 5);
        String before = Edge.all(x);
        String[] texts = {"room 0;", "x", "turn 1;", "", "again 1[".repeat(7)};
        for (String text : texts) {
            edge.same("the 17th: '" + text + "'", Check.work(x, text), -20);
            edge.same("no fault", x.fault(), -1);
            edge.stays("nothing is done", before, x);
        }
        edge.same("it is no refusal", x.status(1), 0);
        edge.same("undo", x.undo(), 15);
        edge.same("the 16th again", Check.work(x, "room 0;"), 1);
        edge.same("the 17th again", Check.work(x, "room 0;"), -20);
        x.image();
        for (int i = 15; i >= 0; i--) {
            edge.same("undo", x.undo(), i);
        }
        edge.same("the first again", Check.work(x, "room 0;"), 1);
        x.restore();
        edge.same("the image has 16, too", Check.work(x, "room 0;"), -20);
        Check.house(x, "");
        edge.same("a new house has none", Check.work(x, "minute;"), 1);
    }

    private void book() {
        edge.sentence(6, "Likewise the BOOK (n to 100): how many lines.");
        FirstAsleep x = Check.of(ONE);
        edge.same("eight", Check.book(x, EIGHT_LINES), 8);
        edge.same("told", x.told(5), 8);
        String[] faulty = {"9 9", "9 41;", EIGHT_LINES + "9 9;"};
        for (int kind = 1; kind <= 3; kind++) {
            edge.same("a fault of kind " + kind, Check.book(x, faulty[kind - 1]), kind - 10);
            edge.same("the book stays", x.told(5), 8);
            edge.same("and what fits", x.fits(0), 1);
            edge.same("the tape is empty", x.count(1), 0);
        }
        Check.feed(x, "1 2;" + " ".repeat(116));
        int refused = x.status(1);
        for (int n : new int[] {-1, 101, 120, 121, Integer.MIN_VALUE, Integer.MAX_VALUE}) {
            check.badArgument("book(" + n + ")", () -> x.book(n));
        }
        edge.same("each is counted", x.status(1), refused + 6);
        edge.same("the tape stays", x.count(1), 120);
        edge.same("100 of 120", x.book(100), 1);
        edge.same("the tape is empty", x.count(1), 0);
        edge.same("the lines ahead are gone", x.fits(0), 1 << 1);
        edge.same("no lines", x.book(0), 0);
        edge.same("all fit", x.fits(0), 1023);
        check.badArgument("book(1) of none", () -> x.book(1));
    }

    private void fault() {
        edge.sentence(7, "The place of the FAULT of the latest text; NONE without.");
        FirstAsleep x = new FirstAsleep();
        edge.same("ahead of any text", x.fault(), -1);
        Check.house(x, "x");
        edge.same("at the first byte", x.fault(), 0);
        edge.same("asked again", x.fault(), 0);
        Check.house(x, " ".repeat(600));
        edge.same("blanks have none", x.fault(), -1);
        Check.law(x, 0, " ".repeat(150));
        edge.same("at the length of 150", x.fault(), 150);
        check.badArgument("house(1) of none", () -> x.house(1));
        check.badArgument("law(2, 0)", () -> x.law(2, 0));
        edge.same("what is refused is no text", x.fault(), 150);
        Check.book(x, "1 1;");
        edge.same("a book without", x.fault(), -1);
        Check.work(x, "minute; minute 1;");
        edge.same("of a work", x.fault(), 15);
        x.undo();
        x.image();
        x.restore();
        Check.feed(x, "x");
        edge.same("no other call changes it", x.fault(), 15);
        x.book(0);
        edge.same("a text of no bytes", x.fault(), -1);
        Check.law(x, 1, "1000");
        edge.same("of a law", x.fault(), 0);
        Check.law(x, 1, "999");
        edge.same("a law without", x.fault(), -1);
    }
}
