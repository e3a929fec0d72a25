/** Promises 9 to 15: looks, prices, steps, walks, books. */
public final class StepsTest {
    private static final Due due = new Due("StepsTest");
    private static final String TOWN = "row oooam;row mooob;row owooo;price 0 3;price 1 10 free;"
            + "person 0 0 2 2;person 1 1 4 2 child;person 2 1 0 2 guided;";

    public static void main(String[] args) {
        looks();
        wrongLooks();
        prices();
        steps();
        blindSteps();
        walks();
        wrongWalks();
        books();
        due.end();
    }

    private static void sees(PricedLooks x, int cell, int way, int seen, int price, int mirrors) {
        String from = "look(" + cell + ", " + way + ", ";
        due.is(from + "0)", seen, x.look(cell, way, 0));
        due.is(from + "1)", price, x.look(cell, way, 1));
        due.is(from + "2)", mirrors, x.look(cell, way, 2));
    }

    private static void looks() {
        PricedLooks x = Due.of(TOWN);
        sees(x, 0, 2, 3, 3, 0);
        sees(x, 0, 4, Due.NONE, 0, 1);
        sees(x, 0, 0, Due.NONE, 0, 0);
        sees(x, 0, 3, Due.NONE, 0, 0);
        sees(x, 11, 2, 14, 10, 0);
        sees(x, 11, 6, 14, 20, 1);
        sees(x, 22, 1, Due.NONE, 0, 1);
        sees(x, 2, 4, Due.NONE, 0, 0);
        sees(x, 2, 2, 3, 3, 0);
        sees(x, 20, 2, 21, 0, 0);
        sees(x, 20, 0, Due.NONE, 0, 1);
        sees(x, 22, 6, 21, 0, 0);
        sees(x, 23, 0, 3, 3, 0);
        sees(x, 12, 1, 3, 3, 0);
        sees(x, 12, 5, 21, 0, 0);
        sees(x, 24, 0, 14, 10, 0);
        x = Due.of("row moom;row womo;row aomo;row awmb;price 0 99;price 1 50;");
        sees(x, 1, 2, Due.NONE, 0, 2);
        sees(x, 1, 6, Due.NONE, 0, 2);
        sees(x, 11, 2, 10, 0, 1);
        sees(x, 11, 6, 10, 0, 0);
        sees(x, 21, 2, 20, 198, 1);
        sees(x, 23, 4, 33, 50, 0);
        sees(x, 23, 0, 33, 100, 1);
        sees(x, 23, 6, Due.NONE, 0, 1);
    }

    private static void wrongLooks() {
        PricedLooks x = Due.of(TOWN);
        int[] notOpen = {3, 4, 10, 14, 21, 5, 9, 15, 30, 79, 80, 100, -1, -10, Integer.MAX_VALUE, Integer.MIN_VALUE};
        for (int cell : notOpen) {
            due.is("look(" + cell + ", 0, 0)", Due.BAD, x.look(cell, 0, 0));
        }
        due.is("look(0, 8, 0)", Due.BAD, x.look(0, 8, 0));
        due.is("look(0, -1, 0)", Due.BAD, x.look(0, -1, 0));
        due.is("look(0, 0, 3)", Due.BAD, x.look(0, 0, 3));
        due.is("look(0, 0, -1)", Due.BAD, x.look(0, 0, -1));
        due.is("no city: look", Due.BAD, new PricedLooks().look(0, 0, 0));
    }

    private static void prices() {
        PricedLooks x = Due.of(TOWN);
        due.is("price(0, 99)", 3, x.price(0, 99));
        due.is("price(0, 0)", 99, x.price(0, 0));
        due.is("price(5, 1): one without a front", 0, x.price(5, 1));
        due.is("price(5, 2)", 1, x.price(5, 2));
        due.is("price(6, 1)", Due.BAD, x.price(6, 1));
        due.is("price(-1, 1)", Due.BAD, x.price(-1, 1));
        due.is("price(0, 100)", Due.BAD, x.price(0, 100));
        due.is("price(0, -1)", Due.BAD, x.price(0, -1));
        due.is("no city: price", Due.STATE, new PricedLooks().price(6, 100));
        due.is("a price from now on", 0, x.look(0, 2, 1));
        x.price(1, 20);
        due.is("doubled by a mirror", 40, x.look(11, 6, 1));
        due.is("a price stays free for children", 0, x.step(1, 6));
    }

    private static void is(PricedLooks x, int person, int cell, int paid, int gone) {
        due.is("where " + person + " is", cell, x.person(person, 0));
        due.is("what " + person + " paid", paid, x.person(person, 3));
        due.is("steps of " + person, gone, x.person(person, 4));
    }

    private static void steps() {
        PricedLooks x = Due.of(TOWN);
        due.is("witnesses(1), none looked", 7, x.witnesses(1));
        due.is("a child by a mirror, free", 0, x.step(1, 6));
        is(x, 1, 11, 0, 1);
        due.is("a blink", 1, x.person(1, 21));
        due.is("witnesses(1)", 5, x.witnesses(1));
        due.is("a child beyond the city", 0, x.step(1, 1));
        is(x, 1, 2, 0, 2);
        due.is("a child, not free", 3, x.step(1, 2));
        is(x, 1, 2, 3, 3);
        due.is("paid to 0", 3, x.person(1, 10));
        due.is("paid to 1", 0, x.person(1, 11));
        due.is("one as most", 3, x.step(0, 2));
        is(x, 0, 1, 3, 1);
        due.is("a wall beyond the city", 0, x.step(0, 0));
        is(x, 0, 1, 3, 2);
        x.step(0, 4);
        due.is("by a mirror, double", 20, x.step(0, 6));
        is(x, 0, 11, 23, 4);
        due.is("one blink by a mirror", 1, x.person(0, 21));
        due.is("got(0)", 6, x.got(0));
        due.is("got(1)", 20, x.got(1));
        due.is("got(5)", 0, x.got(5));
        due.is("witnesses(0)", 4, x.witnesses(0));
        due.is("witnesses(1)", 4, x.witnesses(1));
        due.is("witnesses(5)", 7, x.witnesses(5));
        due.is("home", 22, x.person(0, 1));
        due.is("how he is", 0, x.person(0, 2));
        due.is("how she is", 1, x.person(1, 2));
        due.is("how the third is", 2, x.person(2, 2));
        int[] noSuch = {-1, 5, 9, 16, 19, 26, 100, Integer.MIN_VALUE, Integer.MAX_VALUE};
        for (int what : noSuch) {
            due.is("person(0, " + what + ")", Due.BAD, x.person(0, what));
        }
        due.is("person(3, 0)", Due.BAD, x.person(3, 0));
        due.is("person(-1, 0)", Due.BAD, x.person(-1, 0));
        due.is("got(6)", Due.BAD, x.got(6));
        due.is("got(-1)", Due.BAD, x.got(-1));
        due.is("witnesses(6)", Due.BAD, x.witnesses(6));
        due.is("no city: witnesses(6)", Due.STATE, new PricedLooks().witnesses(6));
    }

    private static void blindSteps() {
        PricedLooks x = Due.of(TOWN);
        due.is("one as most, blind", Due.BAD, x.step(0, 8));
        due.is("a child, blind", Due.BAD, x.step(1, 15));
        is(x, 0, 0, 0, 0);
        due.is("guided, seeing", 10, x.step(2, 2));
        is(x, 2, 13, 10, 1);
        due.is("guided, blind, against a front", 0, x.step(2, 10));
        is(x, 2, 13, 10, 2);
        due.is("no blink", 1, x.person(2, 21));
        due.is("guided, blind", 0, x.step(2, 12));
        is(x, 2, 23, 10, 3);
        due.is("step(2, 16)", Due.BAD, x.step(2, 16));
        due.is("step(2, -1)", Due.BAD, x.step(2, -1));
        due.is("step(0, 8)", Due.BAD, x.step(0, 8));
        due.is("step(3, 0)", Due.BAD, x.step(3, 0));
        due.is("step(-1, 0)", Due.BAD, x.step(-1, 0));
        is(x, 2, 23, 10, 3);
    }

    private static void walks() {
        PricedLooks x = Due.of(TOWN);
        x.sheet(0, 0, 40);
        for (int i = 0; i < 40; i++) {
            x.set(0, i, i % 2 == 0 ? 2 : 6);
        }
        due.is("to and fro: 2 looks at a front, 2 at nothing", 6, x.walk(0, 0, 0, 4));
        is(x, 0, 0, 6, 4);
        due.is("forty steps", 60, x.walk(0, 0, 0, 40));
        is(x, 0, 0, 66, 44);
        x.sheet(1, 1, 3);
        x.set(1, 0, 10);
        x.set(1, 1, 2);
        x.set(1, 2, 12);
        due.is("some of them blind", 10, x.walk(2, 1, 0, 3));
        is(x, 2, 23, 10, 3);
        due.is("from an item on", 0, x.walk(2, 1, 2, 1));
        is(x, 2, 23, 10, 4);
    }

    private static void wrongWalks() {
        PricedLooks x = Due.of(TOWN);
        x.sheet(0, 2, 5);
        x.set(0, 4, 8);
        due.is("an item that is blind for one who sees", Due.BAD, x.walk(0, 0, 0, 5));
        is(x, 0, 0, 0, 0);
        due.is("the same of one who is guided", 0, x.walk(2, 0, 0, 5));
        x.set(0, 3, 16);
        due.is("an item that is no way", Due.BAD, x.walk(2, 0, 0, 5));
        x.set(0, 3, -1);
        due.is("an item below 0", Due.BAD, x.walk(2, 0, 0, 5));
        is(x, 2, 2, 0, 5);
        due.is("no such one", Due.BAD, x.walk(3, 7, 0, 1));
        due.is("no such sheet", Due.BAD, x.walk(0, 8, 0, 1));
        due.is("n 0", Due.BAD, x.walk(0, 7, 0, 0));
        due.is("n 41", Due.BAD, x.walk(0, 7, 0, 41));
        due.is("missing", Due.NULL, x.walk(0, 7, -1, 40));
        due.is("i below 0", Due.PLACE, x.walk(0, 0, -1, 1));
        due.is("beyond the end", Due.PLACE, x.walk(0, 0, 1, 5));
        due.is("beyond the end", Due.PLACE, x.walk(0, 0, Integer.MAX_VALUE, 40));
        due.is("PLACE ahead of an item that is BAD", Due.PLACE, x.walk(0, 0, 3, 3));
    }

    private static void books() {
        PricedLooks x = Due.of(TOWN);
        int sum = 0;
        for (int i = 0; i < 150; i++) {
            sum += x.step(i % 3, (i * 5 + i / 7) % 8);
        }
        int paid = 0;
        int got = 0;
        for (int person = 0; person < 3; person++) {
            int toAll = 0;
            for (int owner = 0; owner < 6; owner++) {
                toAll += x.person(person, 10 + owner);
            }
            due.is("paid in all", toAll, x.person(person, 3));
            due.is("steps", 50, x.person(person, 4));
            paid += toAll;
        }
        for (int owner = 0; owner < 6; owner++) {
            got += x.got(owner);
        }
        due.holds("somebody paid", sum > 0);
        due.is("paid", sum, paid);
        due.is("got", sum, got);
    }
}
