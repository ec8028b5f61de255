/** What the tests share: ops by their names, ways to make objects, and the count of wrong answers. */
abstract class Checks {
    static final int PUSH = 0, ADD = 1, SUBTRACT = 2, MULTIPLY = 3, DIVIDE = 4, LOAD = 5, STORE = 6,
            JUMP = 7, ZERO = 8, NONE = 9, MISSING = 10, NEW = 11, GET = 12, PUT = 13, LENGTH = 14,
            TWICE = 15, EXCHANGE = 16, DROP = 17, CALL = 18, RETURN = 19;
    static final int OPS = 20;
    /** No op at all: an instruction that never fits. */
    static final int BAD = 99;
    static final int EMPTY = 0, INT = 1, REFERENCE = 2, ANY = 3, NOTHING = -1, TORN = -2;
    static final int LEAST = Integer.MIN_VALUE, MOST = Integer.MAX_VALUE;

    static final String UNFIT = "UnsupportedOperationException";
    static final String DIVISION = "ArithmeticException";
    static final String MISSES = "NoSuchElementException";
    static final String OUTSIDE = "IndexOutOfBoundsException";
    static final String FULL = "IllegalStateException";
    static final String REFUSED = "IllegalArgumentException";

    private static final long LONGEST_MILLISECONDS = 300_000;

    static String part = "";
    private static int wrong = 0;
    private static int asked = 0;
    private static int parts = 0;

    interface Ask {
        Object answer();
    }

    /** Runs the test of one part of the document; what it throws is a wrong answer too. */
    static void test(String name, Runnable test) {
        part = name;
        parts++;
        int before = asked;
        try {
            test.run();
        } catch (RuntimeException e) {
            tellWrong("a call that is not asked about threw " + e);
        }
        if (asked == before) {
            tellWrong("nothing was asked");
        }
    }

    /** So that a program that does not end is told as a failure. */
    static void watch() {
        Thread watcher = new Thread(() -> {
            try {
                Thread.sleep(LONGEST_MILLISECONDS);
            } catch (InterruptedException e) {
                return;
            }
            System.out.println(part + ": does not end");
            Runtime.getRuntime().halt(1);
        });
        watcher.setDaemon(true);
        watcher.start();
    }

    static void end() {
        System.out.println(parts + " parts, " + asked + " answers, " + wrong + " not as due");
        if (wrong != 0) {
            System.exit(1);
        }
    }

    static void due(String what, Ask ask, Object want) {
        asked++;
        Object got;
        try {
            got = ask.answer();
        } catch (RuntimeException e) {
            got = e.getClass().getSimpleName();
        }
        if (!want.equals(got)) {
            tellWrong(what + " answered " + got + ", due is " + want);
        }
    }

    private static void tellWrong(String text) {
        wrong++;
        System.out.println(part + ": " + text);
    }

    static FrameVerifier coded(int... pairs) {
        FrameVerifier x = new FrameVerifier();
        append(x, pairs);
        return x;
    }

    /** Adds instructions from pairs of op and number. */
    static void append(FrameVerifier x, int... pairs) {
        for (int i = 0; i < pairs.length; i += 2) {
            x.add(pairs[i], pairs[i + 1]);
        }
    }

    static void repeat(FrameVerifier x, int times, int... pairs) {
        for (int i = 0; i < times; i++) {
            append(x, pairs);
        }
    }

    /** Routine 0 at address 0, without parameters, with an int as result. */
    static FrameVerifier plain(int... pairs) {
        FrameVerifier x = coded(pairs);
        x.routine(0, 0, 0, 0);
        return x;
    }

    static FrameVerifier started(int... pairs) {
        FrameVerifier x = plain(pairs);
        x.start(0, 0, 0);
        return x;
    }

    /**
     * Instructions after which these values are on the stack: i an int, r a reference, a either
     * of them, by two ways that meet.
     */
    static void push(FrameVerifier x, String kinds) {
        for (char kind : kinds.toCharArray()) {
            int at = x.about(7);
            if (kind == 'a') {
                append(x, PUSH, 0, ZERO, at + 4, NONE, 0, JUMP, at + 5, PUSH, 0);
            } else {
                append(x, kind == 'i' ? PUSH : NONE, 0);
            }
        }
    }

    static void dueResult(String what, int want, int... pairs) {
        FrameVerifier x = started(pairs);
        due(what + " verifies", x::verify, 0);
        due(what + " steps", () -> x.steps(200) > 0, true);
        due(what + " runs", () -> x.about(0), 0);
        due(what + " result", () -> x.about(5), want);
    }

    static void dueVerify(String what, int want, int... pairs) {
        dueVerify(what, want, plain(pairs));
    }

    static void dueVerify(String what, int want, FrameVerifier x) {
        due(what, x::verify, want);
        due(what + ", isVerified", x::isVerified, want == 0);
    }

    /** The last of so many steps throws, the run is over then, and nothing else was done. */
    static void dueTrap(FrameVerifier x, int before, String want) {
        for (int i = 0; i < before; i++) {
            due("step " + i + " before the trap", x::step, 1);
        }
        int elements = x.about(6);
        int result = x.about(5);
        due("the trap", x::step, want);
        due("runs after the trap", () -> x.about(0), 0);
        due("elements after the trap", () -> x.about(6), elements);
        due("result after the trap", () -> x.about(5), result);
        due("address after the trap", () -> x.about(1), NOTHING);
        due("step after the trap", x::step, 0);
        due("steps after the trap", () -> x.steps(5), 0);
    }

    /** All twelve slots; locals that are not given are EMPTY, places of the stack not there. */
    static void dueTypes(FrameVerifier x, int r, int address, int... types) {
        for (int slot = 0; slot < 12; slot++) {
            int asks = slot;
            int want = slot < types.length ? types[slot] : slot < 6 ? EMPTY : NOTHING;
            due("type(" + r + ", " + address + ", " + slot + ")", () -> x.type(r, address, asks), want);
        }
    }

    static void dueAll(FrameVerifier x, int r, int address, int want) {
        for (int slot = 0; slot < 12; slot++) {
            int asks = slot;
            due("type(" + r + ", " + address + ", " + slot + ")", () -> x.type(r, address, asks), want);
        }
    }

    static void dueLocals(FrameVerifier x, int... want) {
        for (int i = 0; i < 6; i++) {
            int asks = i;
            due("local(" + i + ")", () -> x.local(asks), i < want.length ? want[i] : NOTHING);
        }
    }

    /** about(0), about(1) and so on. */
    static void dueAbout(FrameVerifier x, int... want) {
        for (int what = 0; what < want.length; what++) {
            int asks = what;
            due("about(" + what + ")", () -> x.about(asks), want[what]);
        }
    }
}
