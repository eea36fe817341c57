/** Counts the answers that are not the ones due, and says so at the end. */
final class Check {
    static final int BEYOND = -1000000001;
    static final int FULL = -1000000002;
    static final int KIND = -1000000003;
    static final int NONE = -1000000004;
    static final int STATE = -1000000005;
    static final int MISSING = -1000000006;
    static final int SIZE = -1000000007;

    private static final long MOST_SECONDS = 120;

    private int wrong = 0;

    /** A call that doesn't end is wrong, too: the test fails then, instead of waiting for it. */
    Check() {
        Thread watch = new Thread(() -> {
            try {
                Thread.sleep(1000 * MOST_SECONDS);
            } catch (InterruptedException e) {
                return;
            }
            System.out.println("a call does not end within " + MOST_SECONDS + " seconds");
            Runtime.getRuntime().halt(1);
        });
        watch.setDaemon(true);
        watch.start();
    }

    void due(String call, long got, long want) {
        if (got != want) {
            wrong++;
            System.out.println(call + " answered " + got + ", due is " + want);
        }
    }

    void isTrue(String what, boolean holds) {
        if (!holds) {
            wrong++;
            System.out.println(what + " does not hold");
        }
    }

    void end() {
        System.out.println(wrong == 0 ? "all answers are as due" : wrong + " answers are not as due");
        if (wrong != 0) {
            System.exit(1);
        }
    }

    /** Feeds a text, four bytes at a time. */
    static void feed(PeasDrum x, String text) {
        for (int at = 0; at < text.length(); at += 4) {
            int n = Math.min(4, text.length() - at);
            int bytes = 0;
            for (int i = 0; i < n; i++) {
                bytes = bytes << 8 | text.charAt(at + i);
            }
            x.feed(bytes, n);
        }
    }

    static int siege(PeasDrum x, String text) {
        feed(x, text);
        return x.siege();
    }

    /** Nights go until NIGHT is that number, unless nights() is broken. */
    static void waitUntil(PeasDrum x, int night) {
        int now = x.now(0);
        for (int i = 0; i <= 999 / 60 && now < night; i++) {
            x.nights(Math.min(60, night - now));
            now = x.now(0);
        }
    }

    static long set(int... cells) {
        long set = 0;
        for (int cell : cells) {
            set |= 1L << cell;
        }
        return set;
    }
}
