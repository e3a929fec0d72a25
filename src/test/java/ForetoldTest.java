/** Promises 16 to 23: ways home, beauty, earnings, rivals, walls, images. */
public final class ForetoldTest {
    private static final Due due = new Due("ForetoldTest");

    public static void main(String[] args) {
        waysHome();
        wrongWays();
        forNothing();
        beauty();
        earns();
        rivals();
        walls();
        images();
        due.end();
    }

    private static void goes(PricedLooks x, int person, int g, int price, int... steps) {
        String call = "home(" + person + ", " + g + ", ";
        due.is(call + "-2)", price, x.home(person, g, -2));
        due.is(call + "-1)", steps.length, x.home(person, g, -1));
        for (int k = 0; k < steps.length + 3; k++) {
            due.is(call + k + ")", k < steps.length ? steps[k] : Due.NONE, x.home(person, g, k));
        }
        due.is(call + "greatest)", Due.NONE, x.home(person, g, Integer.MAX_VALUE));
    }

    private static void waysHome() {
        PricedLooks x = Due.of("row ooob;price 1 5 free;person 0 0 2 0 guided;person 0 0 2 0;person 1 0 2 0 child;");
        goes(x, 0, 0, 10, 2, 2);
        goes(x, 0, 1, 5, 2, 10);
        goes(x, 0, 2, 0, 10, 10);
        goes(x, 0, 5, 0, 10, 10);
        goes(x, 1, 0, 10, 2, 2);
        goes(x, 2, 0, 0, 2);
        due.is("nothing changes", 0, x.person(0, 0));
        due.is("nobody paid", 0, x.got(1));
        x.price(1, 0);
        goes(x, 0, 5, 0, 2, 2);
        x.step(1, 2);
        goes(x, 1, 0, 0, 2);
        x.step(1, 2);
        goes(x, 1, 0, 0);
        x = Due.of("row ooob;row oooo;price 1 5;person 0 0 2 0;person 0 1 3 1;");
        goes(x, 0, 0, 0, 3, 1);
        goes(x, 1, 0, 0, 1, 3, 2);
        x = Due.of("row mooa;price 0 7;person 1 0 2 0;person 2 0 1 0;");
        goes(x, 0, 0, 7, 2);
        goes(x, 1, 0, 14, 6);
    }

    private static void wrongWays() {
        PricedLooks x = Due.of("row owoo;person 0 0 2 0 guided;person 2 0 3 0;person 2 0 3 0 child;");
        due.is("there is none, price", Due.NONE, x.home(0, 5, -2));
        due.is("there is none, steps", Due.NONE, x.home(0, 0, -1));
        due.is("there is none, a step", Due.NONE, x.home(0, 0, 0));
        due.is("g 6", Due.BAD, x.home(0, 6, 0));
        due.is("g -1", Due.BAD, x.home(0, -1, 0));
        due.is("g 1 of one as most", Due.BAD, x.home(1, 1, 0));
        due.is("g 1 of a child", Due.BAD, x.home(2, 1, 0));
        due.is("k -3", Due.BAD, x.home(0, 0, -3));
        due.is("k least", Due.BAD, x.home(1, 0, Integer.MIN_VALUE));
        due.is("no such one", Due.BAD, x.home(3, 0, 0));
        due.is("no such one", Due.BAD, x.home(-1, 0, 0));
        due.is("no city", Due.BAD, new PricedLooks().home(0, 0, 0));
    }

    private static void forNothing() {
        PricedLooks x = Due.of("row ooooooob;price 1 5 free;person 1 0 6 0 guided;person 0 0 6 0 guided;"
                + "person 5 0 6 0;person 5 0 6 0 child;person 6 0 0 0;person 6 0 6 0;");
        due.is("five blind steps", 5, x.nothing(0));
        due.is("six would be needed", Due.NONE, x.nothing(1));
        due.is("one who sees", Due.NONE, x.nothing(2));
        due.is("a child", 0, x.nothing(3));
        due.is("away from the front", 0, x.nothing(4));
        due.is("at home", 0, x.nothing(5));
        due.is("no such one", Due.BAD, x.nothing(6));
        due.is("no such one", Due.BAD, x.nothing(-1));
        x.price(1, 0);
        due.is("a price of 0", 0, x.nothing(1));
        x = Due.of("row owo;person 0 0 2 0 guided;");
        due.is("no way", Due.NONE, x.nothing(0));
    }

    private static void beauty() {
        PricedLooks x = Due.of("row owo;row ooo;");
        due.is("beauty(0)", 2, x.beauty(0));
        due.is("beauty(10)", 3, x.beauty(10));
        due.is("beauty(11)", 4, x.beauty(11));
        due.is("beauty(12)", 3, x.beauty(12));
        due.is("beauty(-1)", 11, x.beauty(-1));
        due.is("beauty(1)", Due.BAD, x.beauty(1));
        due.is("beauty(3)", Due.BAD, x.beauty(3));
        due.is("beauty(-2)", Due.BAD, x.beauty(-2));
        due.is("beauty(20)", Due.BAD, x.beauty(20));
        due.is("of several the least", 0, Due.of("row oo;row oo;").beauty(-1));
        due.is("mirrors do not count", 1, Due.of("row moom;").beauty(1));
        due.is("a lonely one", 1, Due.of("row wo;").beauty(-1));
        due.is("none is open", Due.BAD, Due.of("row wa;").beauty(-1));
        due.is("no city", Due.STATE, new PricedLooks().beauty(-2));
    }

    private static void earns() {
        PricedLooks x = Due.of("row ooob;price 1 5;person 0 0 2 0;person 1 0 2 0 guided;person 2 0 0 0;");
        due.is("earns(1, 0)", 15, x.earns(1, 0));
        due.is("earns(1, 1)", 20, x.earns(1, 1));
        due.is("earns(0, 0)", 0, x.earns(0, 0));
        due.is("earns(0, 1)", 0, x.earns(0, 1));
        due.is("the price is as it was", 5, x.price(1, 60));
        due.is("earns(1, 0) above 20", 180, x.earns(1, 0));
        due.is("earns(1, 1) above 20", 20, x.earns(1, 1));
        due.is("earns(6, 0)", Due.BAD, x.earns(6, 0));
        due.is("earns(-1, 0)", Due.BAD, x.earns(-1, 0));
        due.is("earns(0, 2)", Due.BAD, x.earns(0, 2));
        due.is("earns(0, -1)", Due.BAD, x.earns(0, -1));
        due.is("no city", Due.STATE, new PricedLooks().earns(6, 2));
        x = Due.of("row ooob;price 1 5 free;person 0 0 2 0 child;");
        due.is("a child and a free price", 0, x.earns(1, 0));
        due.is("no price brings anything", 0, x.earns(1, 1));
        x = Due.of("row oowb;price 1 5;person 0 0 1 0;");
        due.is("a front that nobody sees", 0, x.earns(1, 1));
        x = Due.of("row boowo;price 1 5;person 1 0 4 0;");
        due.is("one without a way pays nothing", 0, x.earns(1, 0));
    }

    /** By the corridor to the north he sees b at every step, by the one to the south c: the cheaper gets all. */
    private static final String CORRIDORS = "row woob;row owwo;row wooc;";
    private static final String PERSON = "person 0 1 3 1;";

    private static void rivals() {
        PricedLooks x = Due.of(CORRIDORS + PERSON);
        due.is("both for nothing", 1, x.rivals(-1));
        x = Due.of(CORRIDORS + "price 1 5;price 2 7;" + PERSON);
        due.is("as dear as the other, whose way is the later one", 7, x.earns(1, 1));
        due.is("cheaper than the other, whose way is the first", 4, x.earns(2, 1));
        due.is("one below the other till nothing is left", 9, x.rivals(-1));
        due.is("the first one's price at rest", 0, x.rivals(1));
        x.price(2, 8);
        due.is("the tenth round is the last that may rest", 10, x.rivals(-1));
        x.price(2, 10);
        due.is("no rest in ten rounds", Due.NONE, x.rivals(-1));
        due.is("the first one's price behind ten rounds", 1, x.rivals(1));
        due.is("the second one's", 0, x.rivals(2));
        due.is("the prices are as they were", 10, x.price(2, 10));
        x = Due.of("row o;price 0 33;");
        due.is("no fronts", 1, x.rivals(-1));
        due.is("one without a front keeps his price", 33, x.rivals(0));
        x = Due.of("row aoo;price 0 5;person 2 0 1 0;");
        due.is("a front in the first cell", 20, x.rivals(0));
        x = Due.of("row ooob;price 1 5;person 0 0 2 0;");
        due.is("one front", 2, x.rivals(-1));
        due.is("its price", 20, x.rivals(1));
        due.is("nothing changes", 5, x.price(1, 20));
        due.is("at rest at once", 1, x.rivals(-1));
        due.is("rivals(6)", Due.BAD, x.rivals(6));
        due.is("rivals(-2)", Due.BAD, x.rivals(-2));
        due.is("no city", Due.STATE, new PricedLooks().rivals(-2));
    }

    private static void walls() {
        PricedLooks x = Due.of("row ooob;row wowo;price 1 5;person 0 0 2 0;");
        due.is("more by a wall", -10, x.wall(11, 1));
        due.is("as much", 0, x.wall(13, 1));
        due.is("another owner", 0, x.wall(11, 0));
        due.is("nothing changes", 1, x.kind(11));
        due.is("nothing changes", 0, x.earns(1, 0));
        due.is("the way is as it was", 3, x.home(0, 0, 0));
        due.is("where somebody is", Due.BAD, x.wall(0, 1));
        due.is("where his home is", Due.BAD, x.wall(2, 1));
        due.is("a front", Due.BAD, x.wall(3, 1));
        due.is("a wall", Due.BAD, x.wall(10, 1));
        due.is("beyond", Due.BAD, x.wall(20, 1));
        due.is("beyond", Due.BAD, x.wall(-1, 1));
        due.is("no such owner", Due.BAD, x.wall(11, 6));
        due.is("no such owner", Due.BAD, x.wall(11, -1));
        due.is("no city", Due.BAD, new PricedLooks().wall(0, 0));
        x = Due.of("row ooob;price 1 5;person 0 0 2 0;");
        due.is("no way any more", 10, x.wall(1, 1));
        x.step(0, 2);
        due.is("where he was", 0, x.wall(0, 1));
        due.is("where he is", Due.BAD, x.wall(1, 1));
    }

    private static void images() {
        PricedLooks x = Due.of("row ooob;price 1 5;person 0 0 2 0;");
        due.is("restore(0), none kept", Due.STATE, x.restore(0));
        due.is("image(0)", 1, x.image(0));
        x.step(0, 2);
        due.is("image(1)", 1, x.image(1));
        x.price(1, 60);
        x.step(0, 2);
        x.sheet(0, 0, 3);
        x.feed(Due.word("row x;"), 6);
        due.is("restore(1)", 1, x.restore(1));
        due.is("where he was", 1, x.person(0, 0));
        due.is("what he had paid", 5, x.person(0, 3));
        due.is("blinks", 1, x.person(0, 21));
        due.is("steps", 1, x.person(0, 4));
        due.is("the price", 5, x.look(0, 2, 1));
        due.is("got", 5, x.got(1));
        due.is("the sheet is there", 1, x.count(0));
        due.is("the tape is there", 6, x.count(6));
        due.is("a fault", -1000104, x.city());
        due.is("another city", 0, Due.read(x, "row m;row o;"));
        due.is("restore(0)", 1, x.restore(0));
        due.is("wide", 4, x.count(1));
        due.is("high", 1, x.count(2));
        due.is("people", 1, x.count(3));
        due.is("nobody paid", 0, x.got(1));
        due.is("what is seen", 3, x.look(0, 2, 0));
        due.is("the way home", 10, x.home(0, 0, -2));
        due.is("an image is kept", 1, x.restore(1));
        due.is("and again", 5, x.got(1));
        due.is("the fault stays the latest", 1, x.fault());
        due.is("image(2)", Due.BAD, x.image(2));
        due.is("image(-1)", Due.BAD, x.image(-1));
        due.is("restore(2)", Due.BAD, x.restore(2));
        due.is("restore(-1)", Due.BAD, x.restore(-1));
        due.is("BAD ahead of STATE", Due.BAD, new PricedLooks().image(2));
        due.is("no city", Due.STATE, new PricedLooks().image(1));
    }
}
