import java.util.NoSuchElementException;

/** A house of sleepers in two rooms, minute by minute: who snores, who hears it, who sleeps. */
public final class FirstAsleep {
    public static final int NONE = -1;

    private static final int TAPE_BYTES = 600;
    private static final int LAW_BYTES = 150;
    private static final int WORK_BYTES = 150;
    private static final int BOOK_BYTES = 100;

    private static final int MOST_SLEEPERS = 5;
    private static final int MOST_OPEN = 6;
    private static final int MOST_DEPTH = 9;
    private static final int MOST_TIRED = 99;
    private static final int MOST_LOUD = 40;
    private static final int MOST_SNORES = 9;
    private static final int MOST_WALL = 40;
    private static final int MOST_PLUGS = 20;
    private static final int LAST_MINUTE = 240;
    private static final int AHEAD = 120;
    private static final int MOST_HEAD = 30;
    private static final int MOST_READ = 60;
    private static final int NUDGE_MINUTES = 6;
    private static final int MOST_NIGHTS = 12;
    private static final int MOST_BREATHS = 12;
    private static final int LONGEST_ROW = 4;
    private static final int FULL_NIGHT = 8;
    private static final int MOST_SEEDS = 20;
    private static final int SIXTEEN = 16;

    private static final int LOUD = 0;
    private static final int FALLS = 1;

    private static final int CANNOT_STAND = 1;
    private static final int NO_SUCH_NUMBER = 2;
    private static final int TOO_MANY = 3;
    private static final int FAULT_LESS = 10;
    private static final int WORKS_FULL = -20;

    private final Tape tape = new Tape();
    private final House home = new House();
    private final House draftHome = new House();
    private final Law[] laws = {new Law(), new Law()};
    private final Law draftLaw = new Law();
    private final Book lines = new Book();
    private final Book draftLines = new Book();
    private final Plan plan = new Plan();
    private final Night real = new Night(home, laws);
    private final Night trial = new Night(home, laws);
    private final History works = new History();
    private final Album images = new Album();
    private final Hurry choices = new Hurry();
    private final int[] tally = new int[MOST_LOUD + 1];
    private int refusedSteps = 0;
    private int unknownSleepers = 0;
    private int wrongArguments = 0;

    public FirstAsleep() {
        laws[LOUD].takeLoudWithout();
        laws[FALLS].takeFallsWithout();
        real.begin();
    }

    // ---- texts ----

    public int feed(int a, int b, int c, int d, int e) {
        if (!tape.hasRoom()) {
            return NONE;
        }
        tape.append(a);
        tape.append(b);
        tape.append(c);
        tape.append(d);
        tape.append(e);
        return tape.held;
    }

    public int house(int n) throws IllegalArgumentException {
        openText(n, TAPE_BYTES);
        if (!draftHome.read(tape)) {
            return tape.faultKind - FAULT_LESS;
        }
        home.copy(draftHome);
        laws[LOUD].takeLoudWithout();
        laws[FALLS].takeFallsWithout();
        lines.size = 0;
        works.size = 0;
        images.size = 0;
        refusedSteps = 0;
        real.begin();
        return home.sleepers;
    }

    public int law(int which, int n) throws IllegalArgumentException {
        require(within(which, LOUD, FALLS));
        openText(n, LAW_BYTES);
        if (!draftLaw.read(tape)) {
            return tape.faultKind - FAULT_LESS;
        }
        laws[which].copy(draftLaw);
        return 1;
    }

    public int work(int n) throws IllegalArgumentException {
        openText(n, WORK_BYTES);
        if (works.isFull()) {
            return WORKS_FULL;
        }
        if (!plan.read(tape, home.sleepers)) {
            return tape.faultKind - FAULT_LESS;
        }
        works.keep(real.now);
        plan.carryOut(real, 0, plan.size, 0);
        refusedSteps = plan.refused;
        return plan.done;
    }

    public int book(int n) throws IllegalArgumentException {
        openText(n, BOOK_BYTES);
        if (!draftLines.read(tape)) {
            return tape.faultKind - FAULT_LESS;
        }
        lines.copy(draftLines);
        return lines.size;
    }

    public int fault() {
        return tape.faultPlace;
    }

    public int undo() {
        if (works.size == 0) {
            return NONE;
        }
        works.takeBack(real.now);
        refusedSteps = 0;
        return works.size;
    }

    // ---- what is so now ----

    public int told(int what) throws IllegalArgumentException {
        require(within(what, 0, 7));
        switch (what) {
            case 0: return home.sleepers;
            case 1: return real.now[Night.MINUTE];
            case 2: return real.asleepCount();
            case 3: return real.sleptByAll();
            case 4: return real.now[Night.WOKE];
            case 5: return lines.size;
            case 6: return refusedSteps;
            default: return home.wall;
        }
    }

    public int sleeper(int sleeper, int what) throws NoSuchElementException, IllegalArgumentException {
        requireSleeper(sleeper);
        require(within(what, 0, 9));
        switch (what) {
            case 0: return real.now[Night.TIRED + sleeper];
            case 1: return home.light[sleeper];
            case 2: return home.snores[sleeper];
            case 3: return real.now[Night.ROOM + sleeper];
            case 4: return real.now[Night.DEPTH + sleeper];
            case 5: return real.now[Night.SIDE + sleeper];
            case 6: return real.now[Night.SLEPT + sleeper];
            case 7: return real.now[Night.AWAKE + sleeper];
            case 8: return real.now[Night.PLUGS + sleeper];
            default: return Math.max(0, home.owes[sleeper] - real.now[Night.SLEPT + sleeper]);
        }
    }

    public int noise(int sleeper) throws NoSuchElementException {
        requireSleeper(sleeper);
        Night night = asked();
        night.hearAll(0);
        return night.heard[sleeper];
    }

    public int loud(int sleeper) throws NoSuchElementException {
        requireSleeper(sleeper);
        return asked().loudOf(sleeper);
    }

    public int would(int snores, int wine, int cold, int depth, int tired) throws IllegalArgumentException {
        require(within(snores, 0, 9) && within(wine, 0, 9) && within(cold, 0, 9));
        require(within(depth, 0, 9) && within(tired, 0, MOST_TIRED));
        return trial.loudBy(snores, wine, cold, depth, tired);
    }

    public int clock(int minute) throws IllegalArgumentException {
        require(within(minute, 0, LAST_MINUTE));
        return home.strikesIn(minute);
    }

    public boolean changes(int sleeper) throws NoSuchElementException {
        requireSleeper(sleeper);
        Night night = asked();
        boolean before = night.isAsleep(sleeper);
        night.passMinute(0);
        return night.isAsleep(sleeper) != before;
    }

    public int loudest(int sleeper) throws NoSuchElementException {
        requireSleeper(sleeper);
        Night night = asked();
        night.hearAll(0);
        int found = NONE;
        int most = 0;
        for (int other = 0; other < home.sleepers; other++) {
            int reaches = night.reaching(sleeper, other);
            if (reaches > most) {
                most = reaches;
                found = other;
            }
        }
        return found;
    }

    // ---- what will be, nothing being done ----

    public int soon(int sleeper) throws NoSuchElementException {
        requireSleeper(sleeper);
        Night night = asked();
        for (int minutes = 0; minutes <= AHEAD; minutes++) {
            if (night.isAsleep(sleeper)) {
                return minutes;
            }
            night.passMinute(0);
        }
        return NONE;
    }

    public int slept(int n) throws IllegalArgumentException {
        require(within(n, 0, LAST_MINUTE));
        return asked().sleptInNext(n);
    }

    public int sleeps(int sleeper, int n) throws NoSuchElementException, IllegalArgumentException {
        requireSleeper(sleeper);
        require(within(n, 0, LAST_MINUTE));
        return asked().oneSleptInNext(sleeper, n);
    }

    public int most(int what) throws IllegalArgumentException {
        require(within(what, 0, 1));
        Night night = asked();
        int when = 0;
        int many = night.asleepCount();
        for (int minutes = 1; minutes <= AHEAD; minutes++) {
            night.passMinute(0);
            int asleep = night.asleepCount();
            if (asleep > many) {
                many = asleep;
                when = minutes;
            }
        }
        return what == 0 ? when : many;
    }

    // ---- what would be best ----

    public int head(int sleeper, int h, int n) throws NoSuchElementException, IllegalArgumentException {
        requireSleeper(sleeper);
        require(within(h, 0, MOST_HEAD) && within(n, 0, LAST_MINUTE));
        return sleptByHead(sleeper, h, n);
    }

    public int best(int sleeper, int n) throws NoSuchElementException, IllegalArgumentException {
        requireSleeper(sleeper);
        require(within(n, 0, LAST_MINUTE));
        int found = 0;
        int most = NONE;
        for (int h = 0; h <= MOST_HEAD; h++) {
            int sum = sleptByHead(sleeper, h, n);
            if (sum > most) {
                most = sum;
                found = h;
            }
        }
        return found;
    }

    public int hurry(int sleeper, int other, int k, int n, int what)
            throws NoSuchElementException, IllegalArgumentException {
        requireSleeper(sleeper);
        requireSleeper(other);
        require(sleeper != other && within(k, 0, Hurry.MOST_CHOICE));
        require(within(n, 0, AHEAD) && within(what, 0, 2));
        for (int own = 0; own <= k; own++) {
            for (int its = 0; its <= k; its++) {
                Night night = askedWhileReading(sleeper, other, own, its);
                night.sleptInNext(n);
                choices.put(own, its, night.sleptSince(real, sleeper), night.sleptSince(real, other));
            }
        }
        choices.findRests(k);
        switch (what) {
            case 0: return choices.rests;
            case 1: return choices.first;
            default: return choices.together;
        }
    }

    public int reads(int sleeper, int other, int own, int its, int n)
            throws NoSuchElementException, IllegalArgumentException {
        requireSleeper(sleeper);
        requireSleeper(other);
        require(sleeper != other && within(own, 0, MOST_READ) && within(its, 0, MOST_READ));
        require(within(n, 0, AHEAD));
        return askedWhileReading(sleeper, other, own, its).oneSleptInNext(sleeper, n);
    }

    public int nudges(int sleeper, int other, int n, int what)
            throws NoSuchElementException, IllegalArgumentException {
        requireSleeper(sleeper);
        requireSleeper(other);
        require(sleeper != other && within(n, 0, AHEAD) && within(what, 0, 1));
        int found = 0;
        int most = NONE;
        for (int set = 0; set < 1 << NUDGE_MINUTES; set++) {
            int sum = asked().sleptWithNudges(sleeper, other, set, n);
            if (sum > most) {
                most = sum;
                found = set;
            }
        }
        return what == 0 ? most : found;
    }

    public int rooms(int n, int what) throws IllegalArgumentException {
        require(within(n, 0, AHEAD) && within(what, 0, 1));
        int found = 0;
        int most = NONE;
        for (int set = 0; set < 1 << home.sleepers; set++) {
            Night night = asked();
            if (!night.settle(set)) {
                continue;
            }
            int sum = night.sleptInNext(n);
            if (sum > most) {
                most = sum;
                found = set;
            }
        }
        return what == 0 ? most : found;
    }

    public int inTurns(int sleepers, int d) throws IllegalArgumentException {
        require(within(sleepers, 0, (1 << home.sleepers) - 1) && Integer.bitCount(sleepers) >= 2);
        require(within(d, 0, MOST_NIGHTS));
        for (int least = FULL_NIGHT * d; least > 0; least--) {
            if (nightsToListen(sleepers, d, least) >= d) {
                return least;
            }
        }
        return 0;
    }

    // ---- what was heard ----

    public int fits(int sleeper) throws NoSuchElementException {
        requireSleeper(sleeper);
        return fittingSnores(sleeper);
    }

    public int listen(int sleeper, int what) throws NoSuchElementException, IllegalArgumentException {
        requireSleeper(sleeper);
        require(within(what, 0, 1));
        int fitting = fittingSnores(sleeper);
        int found = NONE;
        int fewest = MOST_SNORES + 2;
        for (int minute = 0; minute < LAST_MINUTE; minute++) {
            if (lines.has(minute)) {
                continue;
            }
            int left = leftAtWorst(sleeper, fitting, minute);
            if (left < fewest) {
                fewest = left;
                found = minute;
            }
        }
        return what == 0 ? found : fewest;
    }

    // ---- the doctor ----

    public long pauses(int q, int k, int n, int part) throws IllegalArgumentException {
        require(within(q, 0, SIXTEEN) && within(k, 1, LONGEST_ROW));
        require(within(n, 0, MOST_BREATHS) && within(part, 0, 1));
        long above = pausesAbove(q, k, n);
        long below = pausesBelow(k);
        long shared = greatestShared(above, below);
        if (shared == 0) {
            return 0;
        }
        return part == 0 ? above / shared : below / shared;
    }

    public int doctor(int k, int n) throws IllegalArgumentException {
        require(within(k, 1, LONGEST_ROW) && within(n, 0, MOST_BREATHS));
        for (int q = 0; q <= SIXTEEN; q++) {
            if (pausesAbove(q, k, n) >= pausesBelow(k)) {
                return q;
            }
        }
        return NONE;
    }

    // ---- walls, plugs, cars ----

    public int wall(int n) throws IllegalArgumentException {
        require(within(n, 0, LAST_MINUTE));
        int found = 0;
        int most = NONE;
        for (int thick = 0; thick <= MOST_WALL; thick++) {
            Night night = asked();
            night.wallNow = thick;
            int sum = night.sleptInNext(n);
            if (sum > most) {
                most = sum;
                found = thick;
            }
        }
        return found;
    }

    public int plugs(int sleeper, int m, int n) throws NoSuchElementException, IllegalArgumentException {
        requireSleeper(sleeper);
        require(within(m, 0, LAST_MINUTE) && within(n, 0, LAST_MINUTE));
        for (int k = 0; k <= MOST_PLUGS; k++) {
            Night night = asked();
            night.now[Night.PLUGS + sleeper] = k;
            if (night.oneSleptInNext(sleeper, n) >= m) {
                return k;
            }
        }
        return NONE;
    }

    public int nights(int seed, int q, int loud, int n, int what) throws IllegalArgumentException {
        requireCars(q, loud, n);
        require(within(what, 0, 3));
        Night night = asked();
        night.passWithCars(seed, q, loud, n);
        switch (what) {
            case 0: return night.sleptByAll() - real.sleptByAll();
            case 1: return night.now[Night.WOKE] - real.now[Night.WOKE];
            case 2: return night.cars;
            default: return night.asleepCount();
        }
    }

    public int span(int seed, int many, int q, int loud, int n, int what) throws IllegalArgumentException {
        require(within(many, 1, MOST_SEEDS) && within(what, 0, 2));
        requireCars(q, loud, n);
        int fewest = LAST_MINUTE * MOST_SLEEPERS;
        int most = 0;
        int undisturbed = 0;
        for (int i = 0; i < many; i++) {
            Night night = asked();
            night.passWithCars(seed + i, q, loud, n);
            int sum = night.sleptByAll() - real.sleptByAll();
            fewest = Math.min(fewest, sum);
            most = Math.max(most, sum);
            if (night.now[Night.WOKE] == real.now[Night.WOKE]) {
                undisturbed++;
            }
        }
        switch (what) {
            case 0: return fewest;
            case 1: return most;
            default: return undisturbed;
        }
    }

    // ---- images and counts ----

    public int image() {
        return images.keep(real.now, works) ? images.size : NONE;
    }

    public int restore() {
        if (!images.takeBack(real.now, works)) {
            return NONE;
        }
        refusedSteps = 0;
        return images.size;
    }

    public int status(int what) {
        switch (what) {
            case 0: return unknownSleepers;
            case 1: return wrongArguments;
            default: return NONE;
        }
    }

    public int count(int what) {
        switch (what) {
            case 0: return images.size;
            case 1: return tape.held;
            case 2: return works.size;
            default: return NONE;
        }
    }

    // ---- helpers of the face ----

    private static boolean within(int value, int least, int most) {
        return value >= least && value <= most;
    }

    private void require(boolean holds) {
        if (!holds) {
            wrongArguments++;
            throw new IllegalArgumentException();
        }
    }

    private void requireSleeper(int sleeper) {
        if (!within(sleeper, 0, home.sleepers - 1)) {
            unknownSleepers++;
            throw new NoSuchElementException();
        }
    }

    private void requireCars(int q, int loud, int n) {
        require(within(q, 0, SIXTEEN) && within(loud, 0, MOST_LOUD) && within(n, 1, LAST_MINUTE));
    }

    private void openText(int n, int longest) {
        require(within(n, 0, Math.min(longest, tape.held)));
        tape.open(n);
    }

    /** The night as it is, on a second row: what is asked there leaves the first as it is. */
    private Night asked() {
        trial.follow(real);
        return trial;
    }

    private Night askedWhileReading(int sleeper, int other, int own, int its) {
        Night night = asked();
        night.keepAwake(sleeper, own);
        night.keepAwake(other, its);
        return night;
    }

    private int sleptByHead(int sleeper, int h, int n) {
        Night night = asked();
        for (int other = 0; other < home.sleepers; other++) {
            if (other != sleeper && !night.isAsleep(other)) {
                night.keepAwake(other, h);
            }
        }
        return night.sleptInNext(n);
    }

    /** How many of d nights the sleepers can listen in together, if each is to sleep so much at least. */
    private int nightsToListen(int sleepers, int d, int least) {
        int spare = FULL_NIGHT * d - least;
        int sum = 0;
        for (int p = 0; p < home.sleepers; p++) {
            if ((sleepers >> p & 1) == 0) {
                continue;
            }
            int cost = FULL_NIGHT - Math.max(0, FULL_NIGHT - home.owes[p] / 60);
            sum += cost > 0 ? Math.min(d, spare / cost) : d;
        }
        return sum;
    }

    private int fittingSnores(int sleeper) {
        int bits = 0;
        for (int snores = 0; snores <= MOST_SNORES; snores++) {
            boolean all = true;
            for (int i = 0; i < lines.size; i++) {
                all = all && trial.loudHad(sleeper, snores, lines.minutes[i]) == lines.louds[i];
            }
            if (all) {
                bits |= 1 << snores;
            }
        }
        return bits;
    }

    private int leftAtWorst(int sleeper, int fitting, int minute) {
        for (int i = 0; i < tally.length; i++) {
            tally[i] = 0;
        }
        int worst = 0;
        for (int snores = 0; snores <= MOST_SNORES; snores++) {
            if ((fitting >> snores & 1) == 0) {
                continue;
            }
            int heard = trial.loudHad(sleeper, snores, minute);
            if (heard >= 0 && heard < tally.length) {
                tally[heard]++;
                worst = Math.max(worst, tally[heard]);
            }
        }
        return worst;
    }

    /**
     * A row is told in minute k by q^k, and in each later one by q^k behind a breath that came: with
     * sixteenths, the mean is q^k * (16 + (n - k) * (16 - q)) by 16^(k + 1).
     */
    private static long pausesAbove(int q, int k, int n) {
        if (n < k) {
            return 0;
        }
        long above = SIXTEEN + (long) (n - k) * (SIXTEEN - q);
        for (int i = 0; i < k; i++) {
            above *= q;
        }
        return above;
    }

    private static long pausesBelow(int k) {
        return 1L << 4 * (k + 1);
    }

    private static long greatestShared(long above, long below) {
        long a = above;
        long b = below;
        for (int i = 0; i < 200 && b != 0; i++) {
            long left = a % b;
            a = b;
            b = left;
        }
        return a;
    }

    /** The bytes that came, and the text at their beginning as it is read from the left. */
    private static final class Tape {
        static final int END = -1;
        private static final int MORE_THAN_ANY = 100000;

        private final int[] bytes = new int[TAPE_BYTES];
        int held = 0;
        private int length = 0;
        private int at = 0;
        int faultKind = 0;
        int faultPlace = NONE;
        /** Where the latest word or number began. */
        int began = 0;

        boolean hasRoom() {
            return held + 20 <= TAPE_BYTES;
        }

        void append(int four) {
            for (int shift = 24; shift >= 0; shift -= 8) {
                if (held >= 0 && held < bytes.length) {
                    bytes[held] = four >>> shift & 255;
                    held++;
                }
            }
        }

        /** Begins to read the first n bytes; the tape is empty from here on. */
        void open(int n) {
            length = Math.min(n, bytes.length);
            at = 0;
            held = 0;
            faultKind = 0;
            faultPlace = NONE;
        }

        boolean fail(int kind, int place) {
            faultKind = kind;
            faultPlace = place;
            return false;
        }

        boolean failHere(int kind) {
            return fail(kind, at);
        }

        /** The next byte that is no blank, which is not taken; END without. */
        int next() {
            while (at < length && bytes[at] == ' ') {
                at++;
            }
            return at < length ? bytes[at] : END;
        }

        boolean take(char sign) {
            if (next() != sign) {
                return fail(CANNOT_STAND, at);
            }
            at++;
            return true;
        }

        boolean nothingMore() {
            return next() == END || fail(CANNOT_STAND, at);
        }

        /** A number in these bounds; NONE behind a fault. */
        int number(int least, int most) {
            if (!isDigit(next())) {
                fail(CANNOT_STAND, at);
                return NONE;
            }
            began = at;
            int value = 0;
            while (at < length && isDigit(bytes[at])) {
                // leading noughts are free, so the length does not bound the value
                value = value < MORE_THAN_ANY ? value * 10 + bytes[at] - '0' : value;
                at++;
            }
            if (value < least || value > most) {
                fail(NO_SUCH_NUMBER, began);
                return NONE;
            }
            return value;
        }

        /** Which of these words (blanks between them) stands here; NONE behind a fault. */
        int word(String words) {
            next();
            began = at;
            while (at < length && bytes[at] >= 'a' && bytes[at] <= 'z') {
                at++;
            }
            int which = 0;
            int from = 0;
            for (int i = 0; i <= words.length(); i++) {
                if (i == words.length() || words.charAt(i) == ' ') {
                    if (isWord(words, from, i)) {
                        return which;
                    }
                    which++;
                    from = i + 1;
                }
            }
            fail(CANNOT_STAND, began);
            return NONE;
        }

        private boolean isWord(String words, int from, int to) {
            if (to - from != at - began) {
                return false;
            }
            for (int i = 0; i < to - from; i++) {
                if (words.charAt(from + i) != bytes[began + i]) {
                    return false;
                }
            }
            return true;
        }

        static boolean isDigit(int sign) {
            return sign >= '0' && sign <= '9';
        }
    }

    /** What the text of the house tells; work changes nothing here. */
    private static final class House {
        private static final String WORDS = "sleeper wine cold plug owes wall over clock";
        private static final int SLEEPER = 0;
        private static final int WINE = 1;
        private static final int COLD = 2;
        private static final int PLUG = 3;
        private static final int OWES = 4;
        private static final int WALL = 5;
        private static final int OVER = 6;
        private static final int MOST_CLAUSES = 60;
        private static final int MOST_CLOCKS = 6;
        private static final int HOUR = 60;
        private static final int WALL_WITHOUT = 10;
        private static final int OVER_WITHOUT = 9;

        int sleepers = 0;
        final int[] tired = new int[MOST_SLEEPERS];
        final int[] light = new int[MOST_SLEEPERS];
        final int[] snores = new int[MOST_SLEEPERS];
        final int[] room = new int[MOST_SLEEPERS];
        final int[] wine = new int[MOST_SLEEPERS];
        final int[] cold = new int[MOST_SLEEPERS];
        final int[] plug = new int[MOST_SLEEPERS];
        final int[] owes = new int[MOST_SLEEPERS];
        private final int[] strikes = new int[HOUR];
        private int clocks = 0;
        int wall = WALL_WITHOUT;
        int over = OVER_WITHOUT;

        int strikesIn(int minute) {
            return minute >= 0 ? strikes[minute % HOUR] : 0;
        }

        void copy(House from) {
            sleepers = from.sleepers;
            clocks = from.clocks;
            wall = from.wall;
            over = from.over;
            for (int p = 0; p < MOST_SLEEPERS; p++) {
                tired[p] = from.tired[p];
                light[p] = from.light[p];
                snores[p] = from.snores[p];
                room[p] = from.room[p];
                wine[p] = from.wine[p];
                cold[p] = from.cold[p];
                plug[p] = from.plug[p];
                owes[p] = from.owes[p];
            }
            for (int m = 0; m < HOUR; m++) {
                strikes[m] = from.strikes[m];
            }
        }

        boolean read(Tape text) {
            clear();
            for (int clauses = 0; clauses <= MOST_CLAUSES && text.next() != Tape.END; clauses++) {
                int word = text.word(WORDS);
                if (word == NONE) {
                    return false;
                }
                if (clauses == MOST_CLAUSES) {
                    return text.fail(TOO_MANY, text.began);
                }
                if (!readClause(text, word) || !text.take(';')) {
                    return false;
                }
            }
            return true;
        }

        private void clear() {
            sleepers = 0;
            clocks = 0;
            wall = WALL_WITHOUT;
            over = OVER_WITHOUT;
            for (int m = 0; m < HOUR; m++) {
                strikes[m] = 0;
            }
        }

        private boolean readClause(Tape text, int word) {
            switch (word) {
                case SLEEPER: return readSleeper(text);
                case WINE: return readOf(text, wine, 9);
                case COLD: return readOf(text, cold, 9);
                case PLUG: return readOf(text, plug, MOST_PLUGS);
                case OWES: return readOf(text, owes, 240);
                case WALL:
                    wall = text.number(0, MOST_WALL);
                    return wall != NONE;
                case OVER:
                    over = text.number(1, 60);
                    return over != NONE;
                default: return readClock(text);
            }
        }

        private boolean readSleeper(Tape text) {
            if (sleepers >= MOST_SLEEPERS) {
                return text.fail(TOO_MANY, text.began);
            }
            int p = sleepers;
            wine[p] = 0;
            cold[p] = 0;
            plug[p] = 0;
            owes[p] = 0;
            sleepers++;
            return readInto(text, tired, p, 60) && readInto(text, light, p, 20)
                    && readInto(text, snores, p, MOST_SNORES) && readInto(text, room, p, 1);
        }

        private boolean readOf(Tape text, int[] row, int most) {
            int p = text.number(0, sleepers - 1);
            return p != NONE && readInto(text, row, p, most);
        }

        private static boolean readInto(Tape text, int[] row, int p, int most) {
            int value = text.number(0, most);
            if (value == NONE || p < 0 || p >= row.length) {
                return false;
            }
            row[p] = value;
            return true;
        }

        private boolean readClock(Tape text) {
            if (clocks >= MOST_CLOCKS) {
                return text.fail(TOO_MANY, text.began);
            }
            clocks++;
            int minute = text.number(0, HOUR - 1);
            if (minute == NONE) {
                return false;
            }
            int strike = text.number(0, MOST_LOUD);
            if (strike == NONE) {
                return false;
            }
            strikes[minute] += strike;
            return true;
        }
    }

    /** A law as code for a row of values: numbers, then what is given, then signs that join two. */
    private static final class Law {
        private static final String WORDS = "snores wine cold depth tired heard light minute awake least most";
        static final int SNORES = 0;
        static final int WINE = 1;
        static final int COLD = 2;
        static final int DEPTH = 3;
        static final int TIRED = 4;
        static final int HEARD = 5;
        static final int LIGHT = 6;
        static final int MINUTE = 7;
        static final int AWAKE = 8;
        static final int GIVEN = 9;
        private static final int LEAST_WORD = 9;
        private static final int MOST_NUMBER = 999;
        private static final int FIRST_GIVEN = 1000;
        private static final int FIRST_SIGN = 2000;
        private static final int PLUS = 2000;
        private static final int MINUS = 2001;
        private static final int TIMES = 2002;
        private static final int BY = 2003;
        private static final int LEAST = 2004;
        private static final int MOST = 2005;
        // snores * 2 + wine + cold, and tired / 4 - heard, each sign behind what it joins
        private static final int[] LOUD_WITHOUT = {1000, 2, 2002, 1001, 2000, 1002, 2000};
        private static final int[] FALLS_WITHOUT = {1004, 4, 2003, 1005, 2001};

        private final int[] code = new int[LAW_BYTES];
        private int size = 0;
        private final int[] stack = new int[32];

        void takeLoudWithout() {
            takeCode(LOUD_WITHOUT, LOUD_WITHOUT.length);
        }

        void takeFallsWithout() {
            takeCode(FALLS_WITHOUT, FALLS_WITHOUT.length);
        }

        void copy(Law from) {
            takeCode(from.code, from.size);
        }

        private void takeCode(int[] from, int length) {
            size = Math.min(Math.min(length, from.length), code.length);
            for (int i = 0; i < size; i++) {
                code[i] = from[i];
            }
        }

        boolean read(Tape text) {
            size = 0;
            return readSum(text, 0) && text.nothingMore();
        }

        private boolean readSum(Tape text, int open) {
            if (!readProduct(text, open)) {
                return false;
            }
            for (int i = 0; i < LAW_BYTES; i++) {
                int sign = text.next();
                if (sign != '+' && sign != '-') {
                    return true;
                }
                if (!text.take((char) sign) || !readProduct(text, open)) {
                    return false;
                }
                put(sign == '+' ? PLUS : MINUS);
            }
            return true;
        }

        private boolean readProduct(Tape text, int open) {
            if (!readUnit(text, open)) {
                return false;
            }
            for (int i = 0; i < LAW_BYTES; i++) {
                int sign = text.next();
                if (sign != '*' && sign != '/') {
                    return true;
                }
                if (!text.take((char) sign) || !readUnit(text, open)) {
                    return false;
                }
                put(sign == '*' ? TIMES : BY);
            }
            return true;
        }

        private boolean readUnit(Tape text, int open) {
            int sign = text.next();
            if (sign == '(') {
                if (open >= MOST_OPEN) {
                    return text.failHere(TOO_MANY);
                }
                return text.take('(') && readSum(text, open + 1) && text.take(')');
            }
            if (!Tape.isDigit(sign)) {
                return readNamed(text, open);
            }
            int value = text.number(0, MOST_NUMBER);
            if (value == NONE) {
                return false;
            }
            put(value);
            return true;
        }

        private boolean readNamed(Tape text, int open) {
            int word = text.word(WORDS);
            if (word == NONE) {
                return false;
            }
            if (word < LEAST_WORD) {
                put(FIRST_GIVEN + word);
                return true;
            }
            if (open >= MOST_OPEN) {
                return text.fail(TOO_MANY, text.began);
            }
            if (!text.take('[') || !readSum(text, open + 1)) {
                return false;
            }
            if (!text.take(',') || !readSum(text, open + 1) || !text.take(']')) {
                return false;
            }
            put(word == LEAST_WORD ? LEAST : MOST);
            return true;
        }

        private void put(int what) {
            if (size < code.length) {
                code[size] = what;
                size++;
            }
        }

        int value(int[] given) {
            int top = 0;
            for (int i = 0; i < size; i++) {
                int what = code[i];
                if (what >= FIRST_SIGN) {
                    if (top >= 2) {
                        top--;
                        stack[top - 1] = join(what, stack[top - 1], stack[top]);
                    }
                } else if (top < stack.length) {
                    int which = what - FIRST_GIVEN;
                    stack[top] = which >= 0 && which < given.length ? given[which] : what;
                    top++;
                }
            }
            return top > 0 ? stack[0] : 0;
        }

        private static int join(int sign, int a, int b) {
            switch (sign) {
                case PLUS: return a + b;
                case MINUS: return a - b;
                case TIMES: return a * b;
                case BY: return b == 0 ? 0 : a / b;
                case LEAST: return a < b ? a : b;
                default: return a > b ? a : b;
            }
        }
    }

    /** Work as rows of steps; behind an again stand its own, up to its end. */
    private static final class Plan {
        private static final String WORDS = "nudge turn room plug call minute again";
        static final int NUDGE = 0;
        static final int TURN = 1;
        static final int ROOM = 2;
        static final int PLUG = 3;
        static final int CALL = 4;
        static final int MINUTE = 5;
        private static final int AGAIN = 6;
        private static final int MOST_AGAIN = 60;
        private static final int MOST_BEGUN = 240;

        private final int[] kinds = new int[WORK_BYTES];
        private final int[] first = new int[WORK_BYTES];
        private final int[] second = new int[WORK_BYTES];
        int size = 0;
        private int begun = 0;
        int done = 0;
        int refused = 0;

        boolean read(Tape text, int sleepers) {
            size = 0;
            begun = 0;
            done = 0;
            refused = 0;
            return readSteps(text, sleepers, 0) && text.nothingMore();
        }

        private boolean readSteps(Tape text, int sleepers, int open) {
            for (int i = 0; i <= WORK_BYTES; i++) {
                int sign = text.next();
                if (sign == Tape.END || sign == ']') {
                    return true;
                }
                if (!readStep(text, sleepers, open) || !text.take(';')) {
                    return false;
                }
            }
            return true;
        }

        private boolean readStep(Tape text, int sleepers, int open) {
            int kind = text.word(WORDS);
            switch (kind) {
                case NONE: return false;
                case NUDGE: return readPair(text, kind, sleepers, sleepers - 1);
                case PLUG: return readPair(text, kind, sleepers, MOST_PLUGS);
                case AGAIN: return readAgain(text, sleepers, open);
                case MINUTE: return put(kind, 0, 0);
                default:
                    int p = text.number(0, sleepers - 1);
                    return p != NONE && put(kind, p, 0);
            }
        }

        private boolean readPair(Tape text, int kind, int sleepers, int most) {
            int p = text.number(0, sleepers - 1);
            if (p == NONE) {
                return false;
            }
            int other = text.number(0, most);
            return other != NONE && put(kind, p, other);
        }

        private boolean readAgain(Tape text, int sleepers, int open) {
            if (open >= MOST_OPEN) {
                return text.fail(TOO_MANY, text.began);
            }
            int times = text.number(0, MOST_AGAIN);
            int place = size;
            if (times == NONE || !put(AGAIN, times, 0)) {
                return false;
            }
            if (!text.take('[') || !readSteps(text, sleepers, open + 1) || !text.take(']')) {
                return false;
            }
            if (place < second.length) {
                second[place] = size;
            }
            return true;
        }

        private boolean put(int kind, int one, int two) {
            if (size >= kinds.length) {
                return false;
            }
            kinds[size] = kind;
            first[size] = one;
            second[size] = two;
            size++;
            return true;
        }

        /** Does the steps from one place up to another; what would come behind the 240th begun is left out. */
        void carryOut(Night night, int from, int to, int depth) {
            int goOn = from;
            for (int i = from; i < to && i < kinds.length && begun < MOST_BEGUN; i++) {
                if (i < goOn) {
                    continue;
                }
                begun++;
                if (kinds[i] == AGAIN) {
                    for (int n = 0; n < first[i] && depth < MOST_OPEN && begun < MOST_BEGUN; n++) {
                        carryOut(night, i + 1, second[i], depth + 1);
                    }
                    goOn = second[i];
                } else if (night.perform(kinds[i], first[i], second[i])) {
                    done++;
                } else {
                    refused++;
                }
            }
        }
    }

    /** Lines of what was heard in which minute. */
    private static final class Book {
        private static final int MOST_LINES = 8;

        final int[] minutes = new int[MOST_LINES];
        final int[] louds = new int[MOST_LINES];
        int size = 0;

        boolean has(int minute) {
            for (int i = 0; i < size; i++) {
                if (minutes[i] == minute) {
                    return true;
                }
            }
            return false;
        }

        void copy(Book from) {
            size = from.size;
            for (int i = 0; i < MOST_LINES; i++) {
                minutes[i] = from.minutes[i];
                louds[i] = from.louds[i];
            }
        }

        boolean read(Tape text) {
            size = 0;
            for (int i = 0; i <= MOST_LINES && text.next() != Tape.END; i++) {
                int minute = text.number(0, LAST_MINUTE - 1);
                if (minute == NONE) {
                    return false;
                }
                if (has(minute)) {
                    return text.fail(NO_SUCH_NUMBER, text.began);
                }
                if (size >= MOST_LINES) {
                    return text.fail(TOO_MANY, text.began);
                }
                int heard = text.number(0, MOST_LOUD);
                if (heard == NONE || !text.take(';')) {
                    return false;
                }
                minutes[size] = minute;
                louds[size] = heard;
                size++;
            }
            return true;
        }
    }

    /** The sleepers as they are in one minute, and how minutes and steps change them. */
    private static final class Night {
        static final int TIRED = 0;
        static final int ROOM = 5;
        static final int DEPTH = 10;
        static final int SIDE = 15;
        static final int SIDE_FOR = 20;
        static final int SLEPT = 25;
        static final int AWAKE = 30;
        static final int PLUGS = 35;
        static final int MINUTE = 40;
        static final int WOKE = 41;
        static final int ROW = 42;

        private final House home;
        private final Law[] laws;
        /** All that work changes, in one row, so that it is kept and taken back in one piece. */
        final int[] now = new int[ROW];
        /** Up to which minute one is kept from falling asleep. */
        private final int[] readsTo = new int[MOST_SLEEPERS];
        private final int[] snoring = new int[MOST_SLEEPERS];
        final int[] heard = new int[MOST_SLEEPERS];
        private final int[] given = new int[Law.GIVEN];
        int wallNow = 0;
        int cars = 0;

        Night(House home, Law[] laws) {
            this.home = home;
            this.laws = laws;
        }

        void begin() {
            for (int i = 0; i < ROW; i++) {
                now[i] = 0;
            }
            for (int p = 0; p < home.sleepers; p++) {
                now[TIRED + p] = home.tired[p];
                now[ROOM + p] = home.room[p];
                now[PLUGS + p] = home.plug[p];
            }
            wallNow = home.wall;
        }

        /** Becomes the same night, with nobody kept awake and the wall as told. */
        void follow(Night other) {
            System.arraycopy(other.now, 0, now, 0, ROW);
            for (int p = 0; p < MOST_SLEEPERS; p++) {
                readsTo[p] = 0;
            }
            wallNow = home.wall;
            cars = 0;
        }

        boolean isAsleep(int p) {
            return now[DEPTH + p] > 0;
        }

        int asleepCount() {
            int sum = 0;
            for (int p = 0; p < home.sleepers; p++) {
                sum += isAsleep(p) ? 1 : 0;
            }
            return sum;
        }

        int sleptByAll() {
            int sum = 0;
            for (int p = 0; p < home.sleepers; p++) {
                sum += now[SLEPT + p];
            }
            return sum;
        }

        int sleptSince(Night earlier, int p) {
            return now[SLEPT + p] - earlier.now[SLEPT + p];
        }

        void keepAwake(int p, int minutes) {
            readsTo[p] = now[MINUTE] + minutes;
        }

        /** Puts those of the set into room 1, the others into room 0; false: one who sleeps lies elsewhere. */
        boolean settle(int set) {
            for (int p = 0; p < home.sleepers; p++) {
                int room = set >> p & 1;
                if (isAsleep(p) && now[ROOM + p] != room) {
                    return false;
                }
                now[ROOM + p] = room;
            }
            return true;
        }

        // -- how loud, and what is heard --

        int loudOf(int p) {
            giveTold(p);
            given[Law.DEPTH] = now[DEPTH + p];
            given[Law.TIRED] = now[TIRED + p];
            given[Law.MINUTE] = now[MINUTE];
            return bounded(laws[LOUD].value(given));
        }

        int loudBy(int snores, int wine, int cold, int depth, int tired) {
            given[Law.SNORES] = snores;
            given[Law.WINE] = wine;
            given[Law.COLD] = cold;
            given[Law.LIGHT] = 0;
            given[Law.HEARD] = 0;
            given[Law.AWAKE] = 0;
            given[Law.DEPTH] = depth;
            given[Law.TIRED] = tired;
            given[Law.MINUTE] = 0;
            return bounded(laws[LOUD].value(given));
        }

        /** How loud one would be in a minute, had he slept from the beginning and snored so. */
        int loudHad(int p, int snores, int minute) {
            giveTold(p);
            given[Law.SNORES] = snores;
            given[Law.DEPTH] = Math.min(MOST_DEPTH, minute + 1);
            given[Law.TIRED] = Math.max(0, home.tired[p] - minute);
            given[Law.MINUTE] = minute;
            return bounded(laws[LOUD].value(given));
        }

        private void giveTold(int p) {
            given[Law.SNORES] = home.snores[p];
            given[Law.WINE] = home.wine[p];
            given[Law.COLD] = home.cold[p];
            given[Law.LIGHT] = home.light[p];
            given[Law.HEARD] = 0;
            given[Law.AWAKE] = 0;
        }

        private static int bounded(int loud) {
            return Math.max(0, Math.min(MOST_LOUD, loud));
        }

        private boolean falls(int p) {
            giveTold(p);
            given[Law.DEPTH] = 0;
            given[Law.TIRED] = now[TIRED + p];
            given[Law.HEARD] = heard[p];
            given[Law.MINUTE] = now[MINUTE];
            given[Law.AWAKE] = now[AWAKE + p];
            return laws[FALLS].value(given) > 0;
        }

        /** Sets what each snores, and hears behind his plugs, as all is now. */
        void hearAll(int car) {
            for (int p = 0; p < home.sleepers; p++) {
                snoring[p] = isAsleep(p) && now[SIDE + p] == 0 ? loudOf(p) : 0;
            }
            int everywhere = home.strikesIn(now[MINUTE]) + car;
            for (int p = 0; p < home.sleepers; p++) {
                int sum = everywhere;
                for (int other = 0; other < home.sleepers; other++) {
                    sum += reaching(p, other);
                }
                heard[p] = Math.max(0, sum - now[PLUGS + p]);
            }
        }

        /** How loud the other one is at this one's ears, by the latest hearAll. */
        int reaching(int p, int other) {
            if (p == other) {
                return 0;
            }
            boolean same = now[ROOM + p] == now[ROOM + other];
            return same ? snoring[other] : Math.max(0, snoring[other] - wallNow);
        }

        // -- minutes --

        /** False, and nothing changes, if there are no more minutes. */
        boolean passMinute(int car) {
            if (now[MINUTE] >= LAST_MINUTE) {
                return false;
            }
            hearAll(car);
            for (int p = 0; p < home.sleepers; p++) {
                if (isAsleep(p)) {
                    sleepOrWake(p);
                } else {
                    fallOrStay(p);
                }
            }
            now[MINUTE]++;
            return true;
        }

        private void fallOrStay(int p) {
            if (now[MINUTE] >= readsTo[p] && falls(p)) {
                now[DEPTH + p] = 1;
                now[SIDE_FOR + p] = 0;
                now[AWAKE + p] = 0;
                return;
            }
            now[TIRED + p] = Math.min(MOST_TIRED, now[TIRED + p] + 1);
            now[AWAKE + p]++;
        }

        private void sleepOrWake(int p) {
            if (heard[p] > home.light[p] + now[DEPTH + p]) {
                wake(p);
                return;
            }
            now[DEPTH + p] = Math.min(MOST_DEPTH, now[DEPTH + p] + 1);
            now[TIRED + p] = Math.max(0, now[TIRED + p] - 1);
            now[SLEPT + p]++;
            if (now[SIDE + p] == 1) {
                now[SIDE_FOR + p]++;
                if (now[SIDE_FOR + p] >= home.over) {
                    now[SIDE + p] = 0;
                }
            }
        }

        private void wake(int p) {
            now[DEPTH + p] = 0;
            now[SIDE + p] = 0;
            now[AWAKE + p] = 0;
            now[WOKE]++;
        }

        int sleptInNext(int n) {
            int before = sleptByAll();
            for (int i = 0; i < n; i++) {
                if (!passMinute(0)) {
                    break;
                }
            }
            return sleptByAll() - before;
        }

        int oneSleptInNext(int p, int n) {
            int before = now[SLEPT + p];
            sleptInNext(n);
            return now[SLEPT + p] - before;
        }

        int sleptWithNudges(int p, int q, int set, int n) {
            int before = sleptByAll();
            for (int i = 0; i < n; i++) {
                if (i < NUDGE_MINUTES && (set >> i & 1) == 1) {
                    nudge(p, q);
                }
                if (!passMinute(0)) {
                    break;
                }
            }
            return sleptByAll() - before;
        }

        /** Cars are drawn for all n minutes, also where the night has none left to pass. */
        void passWithCars(int seed, int q, int loud, int n) {
            int drawn = seed;
            for (int i = 0; i < n; i++) {
                drawn = drawn * 1103515245 + 12345;
                boolean car = (drawn >>> 16 & 32767) % SIXTEEN < q;
                cars += car ? 1 : 0;
                passMinute(car ? loud : 0);
            }
        }

        // -- steps --

        /** False: the step is refused, and nothing changes. */
        boolean perform(int kind, int p, int k) {
            switch (kind) {
                case Plan.NUDGE: return nudge(p, k);
                case Plan.MINUTE: return passMinute(0);
                case Plan.CALL: return call(p);
                default: return !isAsleep(p) && performAwake(kind, p, k);
            }
        }

        private boolean nudge(int p, int q) {
            boolean near = now[ROOM + p] == now[ROOM + q];
            if (isAsleep(p) || !isAsleep(q) || !near || now[SIDE + q] == 1) {
                return false;
            }
            if (now[DEPTH + q] <= 2) {
                wake(q);
                return true;
            }
            now[DEPTH + q] -= 2;
            now[SIDE + q] = 1;
            now[SIDE_FOR + q] = 0;
            return true;
        }

        private boolean call(int p) {
            if (!isAsleep(p)) {
                return false;
            }
            wake(p);
            return true;
        }

        private boolean performAwake(int kind, int p, int k) {
            switch (kind) {
                case Plan.TURN:
                    now[SIDE + p] = 1 - now[SIDE + p];
                    return true;
                case Plan.ROOM:
                    now[ROOM + p] = 1 - now[ROOM + p];
                    return true;
                default:
                    if (now[PLUGS + p] == k) {
                        return false;
                    }
                    now[PLUGS + p] = k;
                    return true;
            }
        }
    }

    /** Nights as they were ahead of each work that can be undone. */
    private static final class History {
        private static final int MOST_WORKS = 16;

        private final int[][] rows = new int[MOST_WORKS][Night.ROW];
        int size = 0;

        boolean isFull() {
            return size >= MOST_WORKS;
        }

        void keep(int[] row) {
            if (size < MOST_WORKS) {
                System.arraycopy(row, 0, rows[size], 0, Night.ROW);
                size++;
            }
        }

        void takeBack(int[] row) {
            if (size > 0) {
                size--;
                System.arraycopy(rows[size], 0, row, 0, Night.ROW);
            }
        }

        void copy(History from) {
            size = from.size;
            for (int i = 0; i < size; i++) {
                System.arraycopy(from.rows[i], 0, rows[i], 0, Night.ROW);
            }
        }
    }

    /** Images: a night and the works that can be undone there. */
    private static final class Album {
        private static final int MOST_IMAGES = 3;

        private final int[][] rows = new int[MOST_IMAGES][Night.ROW];
        private final History[] works = {new History(), new History(), new History()};
        int size = 0;

        boolean keep(int[] row, History now) {
            if (size >= MOST_IMAGES) {
                return false;
            }
            System.arraycopy(row, 0, rows[size], 0, Night.ROW);
            works[size].copy(now);
            size++;
            return true;
        }

        boolean takeBack(int[] row, History now) {
            if (size <= 0) {
                return false;
            }
            size--;
            System.arraycopy(rows[size], 0, row, 0, Night.ROW);
            now.copy(works[size]);
            return true;
        }
    }

    /** What two who may read on sleep by each pair of choices, and where both rest. */
    private static final class Hurry {
        static final int MOST_CHOICE = 8;
        private static final int CHOICES = 9;

        private final int[] ones = new int[CHOICES * CHOICES];
        private final int[] others = new int[CHOICES * CHOICES];
        int rests = 0;
        int first = NONE;
        int together = 0;

        void put(int own, int its, int one, int other) {
            int place = own * CHOICES + its;
            if (place >= 0 && place < ones.length) {
                ones[place] = one;
                others[place] = other;
            }
        }

        void findRests(int k) {
            rests = 0;
            first = NONE;
            together = 0;
            for (int own = 0; own <= k && own < CHOICES; own++) {
                for (int its = 0; its <= k && its < CHOICES; its++) {
                    if (!isRest(own, its, k)) {
                        continue;
                    }
                    if (rests == 0) {
                        int place = own * CHOICES + its;
                        first = 100 * own + its;
                        together = ones[place] + others[place];
                    }
                    rests++;
                }
            }
        }

        private boolean isRest(int own, int its, int k) {
            int place = own * CHOICES + its;
            for (int choice = 0; choice <= k && choice < CHOICES; choice++) {
                if (ones[choice * CHOICES + its] > ones[place]) {
                    return false;
                }
                if (others[own * CHOICES + choice] > others[place]) {
                    return false;
                }
            }
            return true;
        }
    }
}
