/** Small helpers of the tests: texts fed as bytes, answers compared, exceptions awaited. */
final class Check {
    private final String name;
    private int checks = 0;
    private int wrong = 0;
    private String ahead = "";

    Check(String name) {
        this.name = name;
    }

    interface Call {
        long answer();
    }

    void same(String what, long got, long want) {
        checks++;
        if (got != want) {
            wrong++;
            System.out.println(ahead + what + " answered " + got + ", due is " + want);
        }
    }

    /** What follows is about one sentence of the document: it is told ahead of each answer that is wrong. */
    void about(String sentence) {
        ahead = "'" + sentence + "': ";
    }

    void holds(String what, boolean so) {
        same(what, so ? 1 : 0, 1);
    }

    void refuses(String what, Class<? extends RuntimeException> due, Call call) {
        checks++;
        String got;
        try {
            got = "the answer " + call.answer();
        } catch (RuntimeException e) {
            if (e.getClass() == due) {
                return;
            }
            got = e.getClass().getName();
        }
        wrong++;
        System.out.println(ahead + what + " gave " + got + ", due is " + due.getName());
    }

    void noSleeper(String what, Call call) {
        refuses(what, java.util.NoSuchElementException.class, call);
    }

    void badArgument(String what, Call call) {
        refuses(what, IllegalArgumentException.class, call);
    }

    void end() {
        System.out.println(name + ": " + checks + " checks, " + wrong + " wrong");
        if (wrong > 0) {
            System.exit(1);
        }
    }

    static int feed(FirstAsleep x, String text) {
        int held = x.count(1);
        for (int from = 0; from < text.length(); from += 20) {
            int[] four = new int[5];
            for (int i = 0; i < 20; i++) {
                int sign = from + i < text.length() ? text.charAt(from + i) & 255 : 0;
                four[i / 4] = four[i / 4] << 8 | sign;
            }
            held = x.feed(four[0], four[1], four[2], four[3], four[4]);
        }
        return held;
    }

    static int house(FirstAsleep x, String text) {
        feed(x, text);
        return x.house(text.length());
    }

    static int law(FirstAsleep x, int which, String text) {
        feed(x, text);
        return x.law(which, text.length());
    }

    static int work(FirstAsleep x, String text) {
        feed(x, text);
        return x.work(text.length());
    }

    static int book(FirstAsleep x, String text) {
        feed(x, text);
        return x.book(text.length());
    }

    static FirstAsleep of(String house) {
        FirstAsleep x = new FirstAsleep();
        if (house(x, house) < 0) {
            throw new IllegalStateException("the test's house has a fault: " + house);
        }
        return x;
    }

    static String times(String part, int n) {
        return part.repeat(n);
    }
}
