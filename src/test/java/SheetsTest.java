/** Promises 1 to 5, and 29 for the calls with a sheet. */
public final class SheetsTest {
    private static final Due due = new Due("SheetsTest");

    public static void main(String[] args) {
        aNewObject();
        sheets();
        itemsBegin();
        items();
        copies();
        drops();
        findings();
        due.end();
    }

    private static void aNewObject() {
        PricedLooks x = new PricedLooks();
        for (int what = 0; what < 7; what++) {
            due.is("new: count(" + what + ")", 0, x.count(what));
        }
        due.is("new: status", 0, x.status());
        due.is("new: fault", 0, x.fault());
        due.is("new: trace", Due.NONE, x.trace(0));
        due.is("new: got", Due.STATE, x.got(0));
        due.is("new: got(9), STATE ahead of BAD", Due.STATE, x.got(9));
        due.is("new: image", Due.STATE, x.image(0));
        due.is("new: restore", Due.STATE, x.restore(1));
        for (int s = 0; s < 8; s++) {
            due.is("new: drop(" + s + ")", Due.NULL, x.drop(s));
        }
        due.is("NONE", -1000000, PricedLooks.NONE);
        due.is("BAD", -1000001, PricedLooks.BAD);
        due.is("STATE", -1000002, PricedLooks.STATE);
        due.is("FULL", -1000003, PricedLooks.FULL);
    }

    private static void sheets() {
        PricedLooks x = new PricedLooks();
        due.is("sheet(0, 0, 0)", 0, x.sheet(0, 0, 0));
        due.is("sheet(7, 2, 40)", 40, x.sheet(7, 2, 40));
        due.is("count(0)", 2, x.count(0));
        due.is("sheet(7, 1, 41)", Due.BAD, x.sheet(7, 1, 41));
        due.is("sheet(8, 1, 4)", Due.BAD, x.sheet(8, 1, 4));
        due.is("sheet(-1, 1, 4)", Due.BAD, x.sheet(-1, 1, 4));
        due.is("sheet(0, 3, 4)", Due.BAD, x.sheet(0, 3, 4));
        due.is("sheet(0, -1, 4)", Due.BAD, x.sheet(0, -1, 4));
        due.is("sheet(0, 3, -1): BAD ahead of SIZE", Due.BAD, x.sheet(0, 3, -1));
        due.is("sheet(7, 0, -1)", Due.SIZE, x.sheet(7, 0, -1));
        due.is("sheet(7, 0, least)", Due.SIZE, x.sheet(7, 0, Integer.MIN_VALUE));
        due.is("what is found changes nothing", 123456, x.set(7, 39, 123456));
        due.is("in place of what is there", 3, x.sheet(7, 2, 3));
        due.is("the size is new", Due.PLACE, x.set(7, 3, 1));
        due.is("count(0)", 2, x.count(0));
    }

    /** Item 0 is a step to the north: seen by where it leads. */
    private static void itemsBegin() {
        PricedLooks x = Due.of("row ooo;row ooo;row ooo;person 1 1 0 0;");
        x.sheet(7, 2, 2);
        x.set(7, 1, 2);
        x.sheet(7, 2, 2);
        x.walk(0, 7, 1, 1);
        due.is("items are 0 at first, also of a sheet made anew", 1, x.person(0, 0));
        x.set(7, 1, 2);
        x.drop(7);
        x.sheet(7, 0, 2);
        x.walk(0, 7, 1, 1);
        due.is("and of one that was dropped", 1, x.person(0, 0));
    }

    private static void items() {
        PricedLooks x = new PricedLooks();
        x.sheet(0, 0, 2);
        x.sheet(1, 1, 2);
        x.sheet(2, 2, 2);
        due.is("a byte", 127, x.set(0, 0, 127));
        due.is("a byte, 128", -128, x.set(0, 0, 128));
        due.is("a byte, 256", 0, x.set(0, 1, 256));
        due.is("a byte, -129", 127, x.set(0, 1, -129));
        due.is("a short", 32767, x.set(1, 0, 32767));
        due.is("a short, 32768", -32768, x.set(1, 0, 32768));
        due.is("a short, 65537", 1, x.set(1, 1, 65537));
        due.is("an int", Integer.MIN_VALUE, x.set(2, 1, Integer.MIN_VALUE));
        due.is("set(0, 2)", Due.PLACE, x.set(0, 2, 1));
        due.is("set(0, -1)", Due.PLACE, x.set(0, -1, 1));
        due.is("set(3)", Due.NULL, x.set(3, 0, 1));
        due.is("set(3, 99): NULL ahead of PLACE", Due.NULL, x.set(3, 99, 1));
        due.is("set(8)", Due.BAD, x.set(8, 0, 1));
        due.is("set(-1)", Due.BAD, x.set(-1, 0, 1));
    }

    /** Items can be seen by walking: each way leads to another cell. */
    private static void copies() {
        PricedLooks x = Due.of("row ooooo;row ooooo;row ooooo;person 2 1 0 0;");
        x.sheet(0, 2, 5);
        for (int i = 0; i < 5; i++) {
            x.set(0, i, i);
        }
        due.is("copy over itself, to behind", 4, x.copy(0, 0, 0, 1, 4));
        x.image(0);
        int[] cells = {2, 3, 13, 23};
        for (int i = 0; i < 4; i++) {
            x.restore(0);
            due.is("walk by item " + (i + 1), 0, x.walk(0, 0, i + 1, 1));
            due.is("where item " + (i + 1) + " leads", cells[i], x.person(0, 0));
        }
        due.is("copy over itself, to ahead", 4, x.copy(0, 1, 0, 0, 4));
        x.restore(0);
        x.walk(0, 0, 2, 2);
        due.is("items 2 and 3 are 2 and 3", 24, x.person(0, 0));
        x.sheet(1, 1, 5);
        x.sheet(2, 2, 3);
        due.is("two lanes", Due.STORE, x.copy(0, 0, 1, 0, 1));
        due.is("two lanes, STORE ahead of PLACE", Due.STORE, x.copy(0, -1, 1, 0, 1));
        due.is("a missing one", Due.NULL, x.copy(0, 0, 5, 0, 1));
        due.is("a missing one", Due.NULL, x.copy(5, 0, 0, 0, 1));
        due.is("NULL ahead of PLACE", Due.NULL, x.copy(5, -1, 0, 0, 1));
        due.is("BAD ahead of NULL", Due.BAD, x.copy(5, 0, 8, 0, 1));
        due.is("BAD", Due.BAD, x.copy(-1, 0, 0, 0, 1));
        due.is("beyond a's end", Due.PLACE, x.copy(0, 3, 2, 0, 3));
        due.is("beyond b's end", Due.PLACE, x.copy(0, 0, 2, 1, 3));
        due.is("i below 0", Due.PLACE, x.copy(0, -1, 2, 0, 1));
        due.is("j below 0", Due.PLACE, x.copy(0, 0, 2, -1, 1));
        due.is("n below 0", Due.PLACE, x.copy(0, 1, 2, 1, -1));
        due.is("none from an end on", 0, x.copy(0, 5, 2, 3, 0));
        due.is("none from beyond an end on", Due.PLACE, x.copy(0, 6, 2, 3, 0));
        due.is("sums that wrap", Due.PLACE, x.copy(0, Integer.MAX_VALUE, 2, 1, Integer.MAX_VALUE));
        due.is("sums that wrap", Due.PLACE, x.copy(0, 1, 2, Integer.MAX_VALUE, 1));
        due.is("all", 3, x.copy(0, 2, 2, 0, 3));
    }

    private static void drops() {
        PricedLooks x = new PricedLooks();
        x.sheet(4, 0, 17);
        due.is("drop", 17, x.drop(4));
        due.is("drop again", Due.NULL, x.drop(4));
        due.is("count(0)", 0, x.count(0));
        due.is("drop(8)", Due.BAD, x.drop(8));
        due.is("drop(-1)", Due.BAD, x.drop(-1));
        x.sheet(4, 0, 0);
        due.is("one of none is not missing", 0, x.drop(4));
    }

    private static void findings() {
        PricedLooks x = Due.of("row ooa;person 0 0 1 0;");
        x.sheet(0, 0, -5);
        due.is("status SIZE", 4, x.status());
        x.sheet(0, 9, 1);
        due.is("BAD leaves it", 4, x.status());
        x.set(0, 0, 0);
        due.is("status NULL", 1, x.status());
        x.sheet(0, 0, 3);
        due.is("status none", 0, x.status());
        x.set(0, 3, 0);
        due.is("status PLACE", 2, x.status());
        x.set(0, 0, 2);
        due.is("status none", 0, x.status());
        x.sheet(1, 1, 3);
        x.copy(0, 0, 1, 0, 0);
        due.is("status STORE", 5, x.status());
        x.feed(0, 9);
        x.city();
        x.got(0);
        x.price(9, 9);
        due.is("other calls leave it", 5, x.status());
        x.copy(0, 0, 0, 0, 3);
        due.is("status none", 0, x.status());
        x.as(0, 2);
        due.is("status KIND", 3, x.status());
        x.as(99, 2);
        due.is("BAD leaves it", 3, x.status());
        x.as(0, 1);
        due.is("status none", 0, x.status());
        x.drop(7);
        due.is("status NULL of drop", 1, x.status());
        x.drop(1);
        due.is("status none of drop", 0, x.status());
        x.walk(0, 1, 0, 1);
        due.is("status NULL of walk", 1, x.status());
        x.walk(0, 0, 0, 1);
        due.is("status none of walk", 0, x.status());
        x.walk(0, 0, 3, 1);
        due.is("status PLACE of walk", 2, x.status());
        x.set(0, 1, 8);
        x.as(0, 2);
        due.is("an item that is BAD", Due.BAD, x.walk(0, 0, 1, 1));
        due.is("leaves it", 3, x.status());
    }
}
