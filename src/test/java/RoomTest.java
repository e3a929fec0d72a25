import java.lang.management.ManagementFactory;

/** All calls of a run live in one room: an object makes its rows when it is made, and its calls make nothing. */
public final class RoomTest {
    private static final Due due = new Due("RoomTest");
    private static final String TOWN = "row ooobooo;row owoooma;row oomoooo;row ooaowoo;row coooooo;price 0 12;price 1 5 free;"
            + "price 2 60;person 0 0 6 4 guided;person 6 0 0 2;person 2 0 5 4 child;";
    private static final long[] WORDS = new long[(TOWN.length() + 7) / 8];
    private static final int LAST = TOWN.length() - (WORDS.length - 1) * 8;

    private static int sum = 0;

    public static void main(String[] args) {
        for (int i = 0; i < WORDS.length; i++) {
            WORDS[i] = Due.word(TOWN.substring(i * 8, Math.min(TOWN.length(), i * 8 + 8)));
        }
        calls(new PricedLooks());
        long before = bytes();
        PricedLooks x = new PricedLooks();
        long made = bytes() - before;
        due.holds("a new object takes up to 60,000 bytes, not " + made, made < 60000);
        before = bytes();
        calls(x);
        long used = bytes() - before;
        due.holds("its calls take none, but took " + used, used < 2000);
        due.holds("the calls answered", sum != 0);
        due.end();
    }

    private static long bytes() {
        com.sun.management.ThreadMXBean threads =
                (com.sun.management.ThreadMXBean) ManagementFactory.getThreadMXBean();
        return threads.getThreadAllocatedBytes(Thread.currentThread().getId());
    }

    private static void calls(PricedLooks x) {
        for (int round = 0; round < 8; round++) {
            for (int i = 0; i < WORDS.length; i++) {
                sum += x.feed(WORDS[i], i < WORDS.length - 1 ? 8 : LAST);
            }
            sum += x.city() + x.fault() + x.image(0) + x.restore(0) + x.image(1);
            sum += x.sheet(round, 0, 40) + x.set(round, 3, 2) + x.copy(round, 0, round, 2, 9) + x.walk(0, round, 0, 40);
            sum += x.look(0, 2, 1) + x.price(0, 11) + x.step(1, 5) + x.person(1, 3) + x.got(0) + x.witnesses(1);
            sum += x.home(0, 5, 2) + x.nothing(0) + x.beauty(-1) + x.earns(1, 0) + x.earns(1, 1) + x.rivals(-1);
            sum += x.wall(14, 1) + x.kind(3) + x.as(3, 1) + x.ask(3, 0) + x.trace(1) + x.count(4) + x.status();
            sum += x.drop(round) + x.feed(5, 5) + x.city();
        }
    }
}
