/** Counts answers that are not as due, and ends the test by them. */
final class Due {
    static final int NULL = -1000011, PLACE = -1000012, KIND = -1000013, SIZE = -1000014, STORE = -1000015;
    static final int NONE = PricedLooks.NONE, BAD = PricedLooks.BAD, STATE = PricedLooks.STATE, FULL = PricedLooks.FULL;

    private final String test;
    private int right = 0;
    private int wrong = 0;

    Due(String test) {
        this.test = test;
    }

    void is(String call, long want, long got) {
        if (got == want) {
            right++;
            return;
        }
        wrong++;
        if (wrong <= 40) {
            System.out.println(test + ": " + call + " answered " + got + ", due is " + want);
        }
    }

    void holds(String what, boolean fact) {
        is(what, 1, fact ? 1 : 0);
    }

    /** A text on a new object, with its fault where the mark ^ stands, which is not a part of it. */
    void faulty(String marked, int number) {
        int place = marked.indexOf('^');
        String text = marked.substring(0, place) + marked.substring(place + 1);
        PricedLooks x = new PricedLooks();
        is("city of " + marked, -1000100 - place, read(x, text));
        is("fault of " + marked, number, x.fault());
        is("no city by " + marked, STATE, x.got(0));
        is("the tape behind " + marked, 0, x.count(6));
    }

    /** A text on a new object that has no fault. */
    void reads(String text, int people) {
        PricedLooks x = new PricedLooks();
        is("city of " + text, people, read(x, text));
        is("no fault of " + text, 0, x.fault());
        is("people of " + text, people, x.count(3));
    }

    int wrongs() {
        return wrong;
    }

    int answers() {
        return right + wrong;
    }

    void end() {
        System.out.println(test + ": " + right + " answers as due, " + wrong + " not");
        if (wrong > 0 || right == 0) {
            System.exit(1);
        }
    }

    /** Feeds a text by eights; the bytes on the tape behind it. */
    static int feed(PricedLooks x, String text) {
        int size = 0;
        for (int i = 0; i < text.length(); i += 8) {
            int n = Math.min(8, text.length() - i);
            size = x.feed(word(text.substring(i, i + n)), n);
        }
        return size;
    }

    static long word(String part) {
        long w = 0;
        for (int i = 0; i < part.length(); i++) {
            w = w << 8 | part.charAt(i);
        }
        return w;
    }

    static int read(PricedLooks x, String text) {
        feed(x, text);
        return x.city();
    }

    static PricedLooks of(String text) {
        PricedLooks x = new PricedLooks();
        int people = read(x, text);
        if (people < 0) {
            throw new IllegalStateException("a fault in the test's own text: " + text + " " + people);
        }
        return x;
    }
}
