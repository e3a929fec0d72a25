/** Boundary cases of ways home, beauty, earnings, rivals, walls and images: promises 16 to 23. */
final class ForetoldBounds {
    private static final int LEAST = Integer.MIN_VALUE, GREATEST = Integer.MAX_VALUE;
    private static final int[] NO_OWNERS = {-1, 6, 7, LEAST, GREATEST};

    /** By the corridor to the north he sees b once, by the one to the south c; at like prices he goes to the north. */
    private static final String CORRIDORS = "row woob;row owwo;row wooc;";
    private static final String BETWEEN = "person 0 1 3 1;";

    private ForetoldBounds() {
    }

    private static void goes(Due due, PricedLooks x, int person, int g, int price, int... steps) {
        String call = "home(" + person + ", " + g + ", ";
        due.is(call + "-2)", price, x.home(person, g, -2));
        due.is(call + "-1)", steps.length, x.home(person, g, -1));
        for (int k = 0; k < steps.length; k++) {
            due.is(call + k + ")", steps[k], x.home(person, g, k));
        }
        for (int k : new int[] {steps.length, steps.length + 1, 100, GREATEST}) {
            due.is(call + k + ")", Due.NONE, x.home(person, g, k));
        }
    }

    @Says("16: WAY HOME: the price (k = -2), STEPS (-1), the k-th (8 and the WAY: BLIND)")
    static void theLongestWay(Due due) {
        PricedLooks x = Due.of("row oooooooooo;row wwwwwwwwwo;row oooooooooo;row owwwwwwwww;"
                + "row oooooooooo;row wwwwwwwwwo;row oooooooooo;row owwwwwwwww;person 0 0 0 7;person 0 7 0 0 guided;");
        goes(due, x, 0, 0, 0, 2, 2, 2, 2, 2, 2, 2, 2, 3, 5, 6, 6, 6, 6, 6, 6, 6, 5,
                3, 2, 2, 2, 2, 2, 2, 2, 3, 5, 6, 6, 6, 6, 6, 6, 6, 5);
        due.is("back, as long", 36, x.home(1, 5, -1));
        due.is("back, the first", 1, x.home(1, 5, 0));
        due.is("back, the last", 6, x.home(1, 5, 35));
        due.is("back, one more", Due.NONE, x.home(1, 5, 36));
    }

    @Says({"16: NONE: there is none, or not so many.", "Terms: NONE: there is none. (At home"})
    static void noWayAtAll(Due due) {
        PricedLooks x = Due.of("row owo;person 0 0 2 0 guided;person 0 0 2 0;");
        for (int k : new int[] {-2, -1, 0, 1, GREATEST}) {
            due.is("home(0, 0, " + k + ")", Due.NONE, x.home(0, 0, k));
            due.is("home(0, 5, " + k + ")", Due.NONE, x.home(0, 5, k));
            due.is("home(1, 0, " + k + ")", Due.NONE, x.home(1, 0, k));
        }
        x = Due.of("row oo;person 0 0 1 0;");
        due.is("one step", 2, x.home(0, 0, 0));
        due.is("not so many", Due.NONE, x.home(0, 0, 1));
    }

    @Says("Terms: (At home: no STEPS.)")
    static void atHome(Due due) {
        PricedLooks x = Due.of("row aob;price 0 9;price 1 9;person 1 0 1 0 guided;");
        for (int g = 0; g <= 5; g++) {
            goes(due, x, 0, g, 0);
        }
        x = Due.of("row ooa;price 0 9;person 0 0 1 0;");
        goes(due, x, 0, 0, 9, 2);
        x.step(0, 2);
        goes(due, x, 0, 0, 0);
    }

    @Says({"16: BAD: g, also above 0 of one who is not guided", "Terms: with g BLIND STEPS at most (0 to 5)"})
    static void blindStepsAtTheirEdges(Due due) {
        PricedLooks x = Due.of("row oooooooob;price 1 1;person 0 0 7 0 guided;person 0 0 7 0;person 0 0 7 0 child;");
        for (int g = 0; g <= 5; g++) {
            due.is("g " + g + ": so many are not paid for", 7 - g, x.home(0, g, -2));
            due.is("g " + g + ": the last are blind, the first are not", g > 0 ? 10 : 2, x.home(0, g, 6));
            due.is("g " + g + ": as many steps", 7, x.home(0, g, -1));
        }
        for (int g : new int[] {-1, 6, LEAST, GREATEST}) {
            for (int person = 0; person < 3; person++) {
                due.is("home(" + person + ", " + g + ", -2)", Due.BAD, x.home(person, g, -2));
            }
        }
        for (int g = 1; g <= 6; g++) {
            due.is("one as most, g " + g, Due.BAD, x.home(1, g, -2));
            due.is("a child, g " + g, Due.BAD, x.home(2, g, -2));
        }
        due.is("one as most, g 0", 7, x.home(1, 0, -2));
        due.is("a child, g 0", 7, x.home(2, 0, -2));
    }

    @Says("16: k below -2.")
    static void stepsBelowTheFirst(Due due) {
        PricedLooks x = Due.of("row oo;person 0 0 1 0 guided;");
        due.is("k -2", 0, x.home(0, 0, -2));
        for (int k : new int[] {-3, -4, LEAST}) {
            due.is("k " + k, Due.BAD, x.home(0, 0, k));
        }
        x = Due.of("row owo;person 0 0 2 0;");
        due.is("BAD ahead of NONE: k", Due.BAD, x.home(0, 0, -3));
        due.is("BAD ahead of NONE: g", Due.BAD, x.home(0, 1, -2));
    }

    @Says("16: BAD")
    static void theWayOfNobody(Due due) {
        PricedLooks x = Due.of("row oo;person 0 0 1 0;");
        for (int person : new int[] {-1, 1, 5, 6, LEAST, GREATEST}) {
            due.is("home(" + person + ", 0, -2)", Due.BAD, x.home(person, 0, -2));
            due.is("nothing(" + person + ")", Due.BAD, x.nothing(person));
        }
        due.is("no city", Due.BAD, new PricedLooks().home(0, 0, -2));
    }

    @Says("Terms: WAY HOME of somebody from where he is, with g BLIND STEPS at most (0 to 5): a row of STEPS, each of which goes"
            + " to the next CELL, and the last one home: of all such that which costs least, then has the fewest STEPS")
    static void theCheapestIsNotTheShortest(Due due) {
        PricedLooks x = Due.of("row oooa;row owow;row ooow;price 0 1;person 0 0 2 0;");
        goes(due, x, 0, 0, 0, 4, 1, 3, 0);
        x.price(0, 0);
        goes(due, x, 0, 0, 0, 2, 2);
        x.price(0, 99);
        goes(due, x, 0, 0, 0, 4, 1, 3, 0);
        x.step(0, 2);
        goes(due, x, 0, 0, 0, 3, 0);
    }

    @Says("Terms: then is the first STEP by STEP (0 .. 7, then BLIND ones 8 .. 15)")
    static void ofLikeWaysTheFirst(Due due) {
        PricedLooks x = Due.of("row ooo;row ooo;row ooo;person 0 1 2 1;person 0 1 2 1 guided;person 2 1 0 1;person 1 0 1 2;");
        goes(due, x, 0, 0, 0, 1, 3);
        goes(due, x, 1, 5, 0, 1, 3);
        goes(due, x, 2, 0, 0, 5, 7);
        goes(due, x, 3, 0, 0, 3, 5);
        x = Due.of("row ooob;price 1 5;person 0 0 2 0 guided;");
        goes(due, x, 0, 1, 5, 2, 10);
        goes(due, x, 0, 2, 0, 10, 10);
        x.price(1, 0);
        goes(due, x, 0, 5, 0, 2, 2);
    }

    @Says("Terms: then is the first STEP by STEP (0 .. 7, then BLIND ones 8 .. 15)")
    static void blindStepsToTheNorth(Due due) {
        PricedLooks x = Due.of("row b;row o;row o;row o;price 1 5;person 0 3 0 1 guided;");
        goes(due, x, 0, 0, 10, 0, 0);
        goes(due, x, 0, 1, 5, 0, 8);
        goes(due, x, 0, 2, 0, 8, 8);
        goes(due, x, 0, 3, 0, 8, 8);
        x.price(1, 0);
        goes(due, x, 0, 5, 0, 0, 0);
    }

    @Says("Terms: of all such that which costs least")
    static void blindStepsWhereItIsDear(Due due) {
        PricedLooks x = Due.of("row oofww;row wwooa;price 5 99;price 0 5;person 0 0 3 1 guided;");
        goes(due, x, 0, 0, 104, 2, 3, 2);
        goes(due, x, 0, 1, 5, 10, 3, 2);
        goes(due, x, 0, 2, 0, 10, 3, 10);
        goes(due, x, 0, 5, 0, 10, 3, 10);
        x.price(0, 99);
        goes(due, x, 0, 1, 99, 2, 3, 10);
        x = Due.of("row wa;row wo;row fo;row ow;row ow;price 5 99;price 0 5;person 0 4 1 1 guided;");
        goes(due, x, 0, 0, 104, 0, 1, 0);
        goes(due, x, 0, 1, 5, 8, 1, 0);
        goes(due, x, 0, 2, 0, 8, 1, 8);
    }

    @Says("Terms: the price, how many STEPS, the k-th")
    static void theDearestWay(Due due) {
        PricedLooks x = Due.of("row moooooooof;price 5 99;person 8 0 1 0;person 1 0 8 0;");
        goes(due, x, 0, 0, 7 * 198, 6, 6, 6, 6, 6, 6, 6);
        goes(due, x, 1, 0, 7 * 99, 2, 2, 2, 2, 2, 2, 2);
    }

    @Says({"17: FOR NOTHING; NONE.", "Terms: FOR NOTHING: the least g (0 to 5; 0 alone of one who is not guided) by which that"
            + " costs nothing; NONE."})
    static void homeForNothing(Due due) {
        StringBuilder text = new StringBuilder("row ooooooob;price 1 1;");
        for (int g = 0; g <= 5; g++) {
            text.append("person ").append(6 - g).append(" 0 6 0 guided;");
        }
        PricedLooks x = Due.of(text.toString());
        for (int g = 0; g <= 5; g++) {
            due.is("so many blind steps", g, x.nothing(g));
        }
        x = Due.of("row ooooooob;price 1 1 free;person 0 0 6 0 guided;person 5 0 6 0;person 5 0 6 0 child;person 6 0 0 0;"
                + "person 6 0 6 0;");
        due.is("six would be needed", Due.NONE, x.nothing(0));
        due.is("one who is not guided", Due.NONE, x.nothing(1));
        due.is("a child, free", 0, x.nothing(2));
        due.is("nothing is seen", 0, x.nothing(3));
        due.is("at home", 0, x.nothing(4));
        x.price(1, 0);
        due.is("a price of 0", 0, x.nothing(0));
        x = Due.of("row owo;person 0 0 2 0 guided;person 0 0 2 0;");
        due.is("no way", Due.NONE, x.nothing(0));
        due.is("no way of one who is not guided", Due.NONE, x.nothing(1));
    }

    @Says("17: BAD.")
    static void nothingOfNobody(Due due) {
        PricedLooks x = Due.of("row o;" + "person 0 0 0 0;".repeat(6));
        due.is("the sixth", 0, x.nothing(5));
        due.is("no seventh", Due.BAD, x.nothing(6));
        due.is("none below 0", Due.BAD, x.nothing(-1));
        due.is("no city", Due.BAD, new PricedLooks().nothing(0));
    }

    @Says({"18: BEAUTY: of an open CELL", "Terms: BEAUTY: of an open CELL: from how many other open CELLS a LOOK in some WAY goes"
            + " over it (all between open; mirrors do not count)"})
    static void beautyOfFewAndOfMany(Due due) {
        due.is("alone", 0, Due.of("row o;").beauty(0));
        due.is("walled in", 0, Due.of("row www;row wow;row www;").beauty(11));
        due.is("one other", 1, Due.of("row oo;").beauty(1));
        due.is("a wall between", 0, Due.of("row owo;").beauty(0));
        due.is("by a mirror it is not seen", 0, Due.of("row mowo;").beauty(1));
        due.is("a mirror behind does not count", 1, Due.of("row moom;").beauty(2));
        due.is("not round the edge", 3, Due.of("row oo;row oo;").beauty(1));
        PricedLooks x = Due.of("row oooooooooo;".repeat(8));
        due.is("a corner", 9 + 7 + 7, x.beauty(0));
        due.is("the last corner", 9 + 7 + 7, x.beauty(79));
        due.is("the middle", 9 + 7 + 14, x.beauty(34));
    }

    @Says({"18: the best one (cell = -1).", "Terms: the CELL of most, of several the least."})
    static void theMostBeautiful(Due due) {
        due.is("alone", 0, Due.of("row o;").beauty(-1));
        due.is("of several the least", 0, Due.of("row oo;row oo;").beauty(-1));
        due.is("the last of all", 79, Due.of(("row " + "w".repeat(10) + ";").repeat(7) + "row wwwwwwwwwo;").beauty(-1));
        due.is("in the middle", 34, Due.of("row oooooooooo;".repeat(8)).beauty(-1));
        due.is("of those that nobody sees the least", 1, Due.of("row wowo;").beauty(-1));
        due.is("none is open", Due.BAD, Due.of("row wma;").beauty(-1));
    }

    @Says({"18: BAD", "18: STATE: no CITY (ahead of BAD)."})
    static void beautyOfNoCell(Due due) {
        PricedLooks x = Due.of("row owma;");
        for (int cell : new int[] {1, 2, 3, 4, 10, 80, -2, -10, LEAST, GREATEST}) {
            due.is("beauty(" + cell + ")", Due.BAD, x.beauty(cell));
            due.is("no city: beauty(" + cell + ")", Due.STATE, new PricedLooks().beauty(cell));
        }
        due.is("beauty(0)", 0, x.beauty(0));
        due.is("no city: beauty(-1)", Due.STATE, new PricedLooks().beauty(-1));
    }

    @Says({"19: EARNS (what = 0)", "Terms: EARNS: what an OWNER gets, if all go home by their WAYS HOME without BLIND STEPS"
            + " (who has none pays nothing)."})
    static void whoPaysAnOwner(Due due) {
        due.is("nobody is there", 0, Due.of("row oa;price 0 9;").earns(0, 0));
        due.is("all are at home", 0, Due.of("row oa;price 0 9;person 0 0 0 0;").earns(0, 0));
        due.is("no way", 0, Due.of("row aowo;price 0 9;person 1 0 3 0;").earns(0, 0));
        due.is("one without a way, another with one", 9,
                Due.of("row ooawo;price 0 9;person 0 0 4 0;person 0 0 1 0;").earns(0, 0));
        due.is("guided, but without blind steps", 9, Due.of("row ooa;price 0 9;person 0 0 1 0 guided;").earns(0, 0));
        due.is("a child, free", 0, Due.of("row ooa;price 0 9 free;person 0 0 1 0 child;").earns(0, 0));
        due.is("a child, not free", 9, Due.of("row ooa;price 0 9;person 0 0 1 0 child;").earns(0, 0));
        PricedLooks x = Due.of("row mooooooooc;price 2 99;" + "person 8 0 1 0;".repeat(6));
        due.is("six, seven steps each, by a mirror", 6 * 7 * 198, x.earns(2, 0));
        due.is("the best price of six", 20, x.earns(2, 1));
        due.is("rivals of six", 2, x.rivals(-1));
        x.step(0, 6);
        due.is("from where they are", (6 * 7 - 1) * 198, x.earns(2, 0));
        due.is("one without a front", 0, x.earns(5, 0));
    }

    @Says({"19: BEST (1).", "Terms: BEST: his price 0 to 20 by which he EARNS most, others' as they are, of several the least."})
    static void theBestPriceAtItsEdges(Due due) {
        PricedLooks x = Due.of("row ooa;price 0 99;person 0 0 1 0;");
        due.is("20, though 99 brings more", 20, x.earns(0, 1));
        due.is("the price is as it was", 99, x.earns(0, 0));
        due.is("0, if none brings anything", 0, Due.of("row ooa;price 0 9 free;person 0 0 1 0 child;").earns(0, 1));
        due.is("0, if nobody is there", 0, Due.of("row ooa;price 0 9;").earns(0, 1));
        due.is("0 without a front", 0, x.earns(5, 1));
        String two = CORRIDORS + "row wwww;row ooaw;" + BETWEEN;
        String tie = CORRIDORS + "row wwww;row oobw;price 2 10;" + BETWEEN + "person 0 4 1 4;";
        due.is("10 of both is as much as 20 of one: the least", 10, Due.of(tie).earns(1, 1));
        due.is("9 of both is less", 20, Due.of(tie.replace("2 10", "2 9")).earns(1, 1));
        due.is("11 of both is more", 11, Due.of(tie.replace("2 10", "2 11")).earns(1, 1));
        due.is("0, if others' way is for nothing and comes first", 0, Due.of(two).earns(2, 1));
        x = Due.of(CORRIDORS + "price 1 1;" + BETWEEN);
        due.is("0, if no price above is below the other's", 0, x.earns(2, 1));
        x.price(1, 2);
        due.is("1, the only one that is", 1, x.earns(2, 1));
    }

    @Says("Terms: EARNS: what an OWNER gets, if all go home")
    static void peopleOfACityBeforeDoNotPay(Due due) {
        PricedLooks x = Due.of("row ooa;price 0 9;" + "person 0 0 1 0;".repeat(6));
        due.is("six", 54, x.earns(0, 0));
        due.is("the best price of six", 20, x.earns(0, 1));
        Due.read(x, "row ooa;price 0 9;");
        due.is("nobody", 0, x.earns(0, 0));
        due.is("the best price of nobody", 0, x.earns(0, 1));
        due.is("rivals of nobody", 2, x.rivals(-1));
        due.is("a wall of nobody", 0, x.wall(0, 0));
    }

    @Says({"19: BAD", "19: STATE: no CITY (ahead of BAD)."})
    static void earningsOfNoOwner(Due due) {
        PricedLooks x = Due.of("row ooa;price 0 9;person 0 0 1 0;");
        PricedLooks none = new PricedLooks();
        for (int owner : NO_OWNERS) {
            due.is("earns(" + owner + ", 0)", Due.BAD, x.earns(owner, 0));
            due.is("earns(" + owner + ", 1)", Due.BAD, x.earns(owner, 1));
            due.is("no city: earns(" + owner + ", 0)", Due.STATE, none.earns(owner, 0));
        }
        for (int what : new int[] {-1, 2, LEAST, GREATEST}) {
            due.is("earns(0, " + what + ")", Due.BAD, x.earns(0, what));
            due.is("no city: earns(0, " + what + ")", Due.STATE, none.earns(0, what));
        }
    }

    @Says({"20: RIVALS: rounds (owner = -1; NONE)", "Terms: RIVALS: round by round (10 at most)",
        "Terms: the first round in which nobody's price changes (1 on); NONE."})
    static void roundsTillTheyRest(Due due) {
        due.is("no front: the first round", 1, Due.of("row o;price 0 99;").rivals(-1));
        due.is("at rest already: the first", 1, Due.of("row ooa;price 0 20;person 0 0 1 0;").rivals(-1));
        due.is("one change: the second", 2, Due.of("row ooa;price 0 19;person 0 0 1 0;").rivals(-1));
        PricedLooks x = Due.of(CORRIDORS + "price 1 5;price 2 7;" + BETWEEN);
        due.is("one below the other: the ninth", 9, x.rivals(-1));
        x.price(2, 8);
        due.is("the tenth", 10, x.rivals(-1));
        x.price(2, 9);
        due.is("an eleventh would be needed", Due.NONE, x.rivals(-1));
    }

    @Says({"20: an OWNER's price then (also if there is no rest: behind 10 rounds).",
        "Terms: OWNERS who have a front take their BEST, one behind the other by numbers:"})
    static void pricesAtRestOrBehindTenRounds(Due due) {
        PricedLooks x = Due.of(CORRIDORS + "price 0 33;price 1 5;price 2 7;price 5 99;" + BETWEEN);
        int[] rest = {33, 0, 0, 0, 0, 99};
        for (int owner = 0; owner < 6; owner++) {
            due.is("rivals(" + owner + ")", rest[owner], x.rivals(owner));
        }
        x.price(2, 10);
        int[] none = {33, 1, 0, 0, 0, 99};
        for (int owner = 0; owner < 6; owner++) {
            due.is("behind ten rounds: rivals(" + owner + ")", none[owner], x.rivals(owner));
        }
        due.is("the prices are as they were", 5, x.price(1, 5));
        due.is("the prices are as they were", 10, x.price(2, 10));
        x = Due.of("row aoo;price 0 5;person 2 0 1 0;");
        due.is("a front in the first cell", 20, x.rivals(0));
        x = Due.of("row wwwwwwwwww;".repeat(7) + "row wwwwwwwoof;price 5 5;person 7 7 8 7;");
        due.is("a front in the last cell", 20, x.rivals(5));
    }

    @Says({"20: BAD", "20: STATE: no CITY (ahead of BAD)."})
    static void rivalsOfNoOwner(Due due) {
        PricedLooks x = Due.of("row ooa;price 0 9;person 0 0 1 0;");
        for (int owner : new int[] {-2, 6, LEAST, GREATEST}) {
            due.is("rivals(" + owner + ")", Due.BAD, x.rivals(owner));
            due.is("no city: rivals(" + owner + ")", Due.STATE, new PricedLooks().rivals(owner));
        }
        due.is("no city: rivals(-1)", Due.STATE, new PricedLooks().rivals(-1));
    }

    @Says({"21: WALL.", "Terms: becomes a wall: by how much less an OWNER EARNS then (below 0: more)."})
    static void lessAndMoreByAWall(Due due) {
        PricedLooks x = Due.of("row oooa;row wowo;price 0 99;person 0 0 2 0;person 0 0 2 0;");
        due.is("more: both must see it now", -2 * 2 * 99, x.wall(11, 0));
        due.is("as much", 0, x.wall(13, 0));
        due.is("as much to another", 0, x.wall(11, 5));
        x = Due.of("row oooa;price 0 99;person 0 0 2 0;");
        due.is("less: there is no way any more", 2 * 99, x.wall(1, 0));
        x = Due.of("row aooo;row wwoo;price 0 9;person 3 0 1 0;person 2 0 2 0;");
        due.is("a wall in a look does not cost", 0, x.wall(13, 0));
    }

    @Says({"21: BAD: a CELL that is not so, too.", "Terms: WALL: an open CELL where nobody is, nor has his home,"})
    static void wallsWhereNoneMayBe(Due due) {
        PricedLooks x = Due.of("row oooo;row wmaw;price 2 1;person 0 0 3 0;");
        for (int cell : new int[] {0, 3, 10, 11, 12, 4, 20, 80, -1, LEAST, GREATEST}) {
            due.is("wall(" + cell + ", 0)", Due.BAD, x.wall(cell, 0));
        }
        for (int owner : NO_OWNERS) {
            due.is("wall(1, " + owner + ")", Due.BAD, x.wall(1, owner));
        }
        due.is("where nobody is", 0, x.wall(1, 5));
        x.step(0, 2);
        due.is("where he is now", Due.BAD, x.wall(1, 0));
        due.is("where he was", 0, x.wall(0, 0));
        due.is("no city", Due.BAD, new PricedLooks().wall(0, 0));
    }

    @Says("Terms: FORETOLD (nothing changes).")
    static void whatIsForetoldDoesNotHappen(Due due) {
        PricedLooks x = Due.of(CORRIDORS + "price 1 5;price 2 30;" + BETWEEN + "person 1 0 2 2 guided;");
        x.step(0, 1);
        x.step(0, 2);
        for (int round = 0; round < 2; round++) {
            due.is("home", 3, x.home(1, 5, -1));
            due.is("nothing", 1, x.nothing(1));
            due.is("beauty", 1, x.beauty(-1));
            due.is("earns", 5, x.earns(1, 0));
            due.is("best", 20, x.earns(1, 1));
            due.is("rivals", Due.NONE, x.rivals(-1));
            due.is("wall", 0, x.wall(21, 1));
            due.is("where he is", 2, x.person(0, 0));
            due.is("where the other is", 1, x.person(1, 0));
            due.is("got", 5, x.got(1));
            due.is("nobody else looked", 2, x.witnesses(1));
            due.is("the price", 5, x.look(1, 2, 1));
            due.is("the cell", 1, x.kind(21));
            due.is("steps", 2, x.person(0, 4));
        }
    }

    @Says({"22: An IMAGE (0, 1) is kept of the CITY and all that was paid: 1.", "23: These are as an IMAGE kept them: 1."})
    static void imagesOfACity(Due due) {
        PricedLooks x = Due.of("row ooab;price 0 5 free;price 1 99;person 0 0 1 0;person 0 0 0 0 child;");
        due.is("image(0)", 1, x.image(0));
        x.step(0, 2);
        x.step(1, 2);
        x.price(0, 7);
        due.is("image(1)", 1, x.image(1));
        due.is("another city", 0, Due.read(x, "row m;row m;"));
        due.is("restore(0)", 1, x.restore(0));
        int[] first = {0, 1, 0, 0, 0};
        for (int what = 0; what < 5; what++) {
            due.is("person(0, " + what + ")", first[what], x.person(0, what));
        }
        due.is("got", 0, x.got(0));
        due.is("witnesses", 3, x.witnesses(0));
        due.is("the price", 5, x.look(0, 2, 1));
        due.is("mirrors of the other city", 0, x.count(5));
        due.is("restore(1)", 1, x.restore(1));
        int[] second = {1, 1, 0, 5, 1};
        for (int what = 0; what < 5; what++) {
            due.is("person(0, " + what + ")", second[what], x.person(0, what));
        }
        due.is("got", 5, x.got(0));
        due.is("paid", 5, x.person(0, 10));
        due.is("blinks", 1, x.person(1, 20));
        due.is("witnesses", 0, x.witnesses(0));
        due.is("free", 0, x.step(1, 2));
        due.is("the price", 7, x.look(0, 2, 1));
        due.is("what comes behind is not kept", 1, x.restore(1));
        due.is("blinks", 1, x.person(1, 20));
        due.is("an image in place of another", 1, x.image(0));
        x.restore(0);
        due.is("got", 5, x.got(0));
    }

    @Says("22: is kept of the CITY and all that was paid")
    static void anImageOfAllThatThereMayBe(Due due) {
        PricedLooks x = Due.of("row fooooooooo;" + "row oooooooooo;".repeat(6) + "row oooooooofo;price 5 99 free;"
                + "person 9 7 9 7;".repeat(5) + "person 9 7 0 7 guided;");
        x.step(5, 6);
        x.step(5, 8);
        x.step(4, 6);
        x.image(1);
        Due.read(x, "row m;");
        due.is("restore", 1, x.restore(1));
        due.is("wide", 10, x.count(1));
        due.is("high", 8, x.count(2));
        due.is("fronts", 2, x.count(4));
        due.is("mirrors", 0, x.count(5));
        due.is("people", 6, x.count(3));
        due.is("the last one's cell", 69, x.person(5, 0));
        due.is("his home", 70, x.person(5, 1));
        due.is("how he is", 2, x.person(5, 2));
        due.is("what he paid", 99, x.person(5, 3));
        due.is("his steps", 2, x.person(5, 4));
        due.is("what he paid to the last owner", 99, x.person(5, 15));
        due.is("his blinks", 1, x.person(5, 25));
        due.is("who has not looked", 15, x.witnesses(5));
        due.is("got", 198, x.got(5));
        due.is("the last front", 5, x.kind(78));
        due.is("the first front", 5, x.kind(0));
        due.is("the last price", 99, x.price(5, 99));
    }

    @Says("22: is kept of the CITY and all that was paid")
    static void whatAnImageDoesNotKeep(Due due) {
        PricedLooks x = Due.of("row oa;");
        x.image(0);
        x.sheet(3, 0, 2);
        x.feed(' ', 1);
        x.as(0, 2);
        x.ask(0, 1);
        Due.read(x, "row o;price 6 0;");
        x.feed(' ', 1);
        x.restore(0);
        due.is("the sheet", 1, x.count(0));
        due.is("the tape", 1, x.count(6));
        due.is("status", 3, x.status());
        due.is("the trace", 20, x.trace(0));
        due.is("the fault", 2, x.fault());
    }

    @Says({"22: BAD", "23: BAD"})
    static void imagesThatAreNone(Due due) {
        PricedLooks x = Due.of("row o;");
        x.image(0);
        x.image(1);
        for (int k : new int[] {-1, 2, LEAST, GREATEST}) {
            due.is("image(" + k + ")", Due.BAD, x.image(k));
            due.is("restore(" + k + ")", Due.BAD, x.restore(k));
            due.is("no city, BAD ahead of STATE: image(" + k + ")", Due.BAD, new PricedLooks().image(k));
            due.is("no city, BAD ahead of STATE: restore(" + k + ")", Due.BAD, new PricedLooks().restore(k));
        }
    }

    @Says({"22: STATE: no CITY.", "23: STATE: none was kept."})
    static void imagesOfNoCity(Due due) {
        PricedLooks x = new PricedLooks();
        due.is("image(0)", Due.STATE, x.image(0));
        due.is("image(1)", Due.STATE, x.image(1));
        due.is("restore(0)", Due.STATE, x.restore(0));
        Due.read(x, "row o;");
        due.is("a city alone is no image", Due.STATE, x.restore(0));
        x.image(1);
        due.is("the other one", Due.STATE, x.restore(0));
        due.is("the one that was kept", 1, x.restore(1));
        due.is("a city without people, prices", 1, x.count(1));
    }
}
