/** Counts answers that are not as due, and ends the test by them. */
final class Due {
    static final int NULL = -1000011, PLACE = -1000012, KIND = -1000013, SIZE = -1000014, STORE = -1000015;
    static final int NONE = PricedLooks.NONE, BAD = PricedLooks.BAD, STATE = PricedLooks.STATE, FULL = PricedLooks.FULL;

    private final String test;
    private int right = 0;
    private int wrong = 0;

    Due(String test) {
        this.test = test;
    }

    void is(String call, long want, long got) {
        if (got == want) {
            right++;
            return;
        }
        wrong++;
        if (wrong <= 40) {
            System.out.println(test + ": " + call + " answered " + got + ", due is " + want);
        }
    }

    void holds(String what, boolean fact) {
        is(what, 1, fact ? 1 : 0);
    }

    int wrongs() {
        return wrong;
    }

    void end() {
        System.out.println(test + ": " + right + " answers as due, " + wrong + " not");
        if (wrong > 0 || right == 0) {
            System.exit(1);
        }
    }

    /** Feeds a text by eights; the bytes on the tape behind it. */
    static int feed(PricedLooks x, String text) {
        int size = 0;
        for (int i = 0; i < text.length(); i += 8) {
            int n = Math.min(8, text.length() - i);
            size = x.feed(word(text.substring(i, i + n)), n);
        }
        return size;
    }

    static long word(String part) {
        long w = 0;
        for (int i = 0; i < part.length(); i++) {
            w = w << 8 | part.charAt(i);
        }
        return w;
    }

    static int read(PricedLooks x, String text) {
        feed(x, text);
        return x.city();
    }

    static PricedLooks of(String text) {
        PricedLooks x = new PricedLooks();
        int people = read(x, text);
        if (people < 0) {
            throw new IllegalStateException("a fault in the test's own text: " + text + " " + people);
        }
        return x;
    }
}
