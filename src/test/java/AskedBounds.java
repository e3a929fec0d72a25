/** Boundary cases of kinds, asks, the trace, counts and status: promises 24 to 29. */
final class AskedBounds {
    private static final int LEAST = Integer.MIN_VALUE, GREATEST = Integer.MAX_VALUE;
    private static final int[] NO_CELLS = {-1, 5, 9, 15, 20, 80, -10, LEAST, GREATEST};

    /** One cell of each kind: a wall, a mirror, a front, a dear one; the rest is open. */
    private static final String TOWN = "row owmab;row ooooo;price 0 49;price 1 50;";

    private AskedBounds() {
    }

    private static void answers(Due due, PricedLooks x, int cell, int what, int want, int... bodies) {
        String call = "ask(" + cell + ", " + what + ")";
        due.is(call, want, x.ask(cell, what));
        for (int i = 0; i < 20; i++) {
            due.is("trace(" + i + ") of " + call, i < bodies.length ? bodies[i] : Due.NONE, x.trace(i));
        }
    }

    @Says({"24: The KIND of a CELL, as told (1 to 5).", "Terms: KINDS of CELLS: 0 CELL; 1 OPEN, a CELL; 2 WALL, a CELL; 3 FRONT,"
            + " a WALL; 4 MIRROR, a WALL; 5 DEAR, a FRONT"})
    static void eachKind(Due due) {
        PricedLooks x = Due.of(TOWN);
        int[] kinds = {1, 2, 4, 3, 5};
        for (int cell = 0; cell < 5; cell++) {
            due.is("kind(" + cell + ")", kinds[cell], x.kind(cell));
        }
        due.is("somebody's cell is open", 1, Due.of("row o;person 0 0 0 0;").kind(0));
    }

    @Says("Terms: its price is 50 or more. By this it is asked.")
    static void dearFromFiftyOn(Due due) {
        PricedLooks x = Due.of("row f;");
        int[] prices = {0, 49, 50, 99, 49, 50};
        int[] kinds = {3, 3, 5, 5, 3, 5};
        for (int n = 0; n < prices.length; n++) {
            x.price(5, prices[n]);
            due.is("at " + prices[n], kinds[n], x.kind(0));
            due.is("as a dear one at " + prices[n], kinds[n] == 5 ? 0 : Due.KIND, x.as(0, 5));
            due.is("as a front at " + prices[n], 0, x.as(0, 3));
            x.ask(0, 0);
            due.is("it is asked as one at " + prices[n], kinds[n] == 5 ? 13 : 12, x.trace(0));
            x.ask(0, 1);
            due.is("it is asked as one at " + prices[n], kinds[n] == 5 ? 23 : 21, x.trace(0));
        }
        x.price(5, 60);
        x.price(4, 0);
        due.is("by the price of its own owner", 5, x.kind(0));
    }

    @Says("24: BAD.")
    static void theKindOfNoCell(Due due) {
        PricedLooks x = Due.of(TOWN);
        for (int cell : NO_CELLS) {
            due.is("kind(" + cell + ")", Due.BAD, x.kind(cell));
        }
        due.is("the last cell", 1, x.kind(14));
        due.is("no city", Due.BAD, new PricedLooks().kind(0));
    }

    @Says({"25: A CELL is taken as one of a KIND (0 .. 5): x and 10 y.", "25: KIND: it is no such one.",
        "Terms: 3 KIND (a CELL that is not that)"})
    static void cellsAsEachKind(Due due) {
        PricedLooks x = Due.of(TOWN);
        String[] kinds = {"01", "02", "024", "023", "0235"};
        for (int cell = 0; cell < 5; cell++) {
            for (int kind = 0; kind < 6; kind++) {
                boolean is = kinds[cell].indexOf('0' + kind) >= 0;
                due.is("as(" + cell + ", " + kind + ")", is ? cell : -1000013, x.as(cell, kind));
                due.is("status", is ? 0 : 3, x.status());
            }
        }
        due.is("x and 10 y", 14, x.as(14, 1));
    }

    @Says("25: BAD")
    static void cellsAsNoKind(Due due) {
        PricedLooks x = Due.of(TOWN);
        for (int kind : new int[] {-1, 6, 7, LEAST, GREATEST}) {
            due.is("as(0, " + kind + ")", Due.BAD, x.as(0, kind));
        }
        for (int cell : NO_CELLS) {
            due.is("as(" + cell + ", 0)", Due.BAD, x.as(cell, 0));
            due.is("as(" + cell + ", 5): BAD ahead of KIND", Due.BAD, x.as(cell, 5));
        }
        due.is("no city", Due.BAD, new PricedLooks().as(0, 0));
    }

    @Says({"26: An ASK (0, 1) of a CELL.", "Terms: ASKS of CELLS, by BODIES, each of which leaves its number in THE TRACE as it begins",
        "Terms: 10 lent to all CELLS: how many CELLS beside it (8 at most) are open. 11 of WALLS: 0 less what 10 gives."})
    static void sizeOfWallsAtItsEdges(Due due) {
        answers(due, Due.of("row w;"), 0, 0, 0, 11, 10);
        answers(due, Due.of("row www;row www;row www;"), 11, 0, 0, 11, 10);
        answers(due, Due.of("row ooo;row owo;row ooo;"), 11, 0, -8, 11, 10);
        answers(due, Due.of("row oma;row owd;row www;"), 11, 0, -2, 11, 10);
        PricedLooks x = Due.of("row wooooooooo;row oooooooooo;row oooooooooo;row ooooooooow;");
        answers(due, x, 0, 0, -3, 11, 10);
        answers(due, x, 39, 0, -3, 11, 10);
    }

    @Says({"Terms: 0 SIZE: 10 lent", "Terms: 14 of OPEN ones: what 10 gives, less MARK."})
    static void sizeOfOpenOnes(Due due) {
        answers(due, Due.of("row o;"), 0, 0, 0, 14, 10, 20);
        PricedLooks x = Due.of("row oooooooooo;".repeat(8));
        answers(due, x, 0, 0, 3, 14, 10, 20);
        answers(due, x, 9, 0, 3 - 9, 14, 10, 20);
        answers(due, x, 44, 0, 8 - 44, 14, 10, 20);
        answers(due, x, 79, 0, 3 - 79, 14, 10, 20);
    }

    @Says({"Terms: 12 of FRONTS: what 11 gives, and MARK. 13 of DEAR ones: what 12 gives, twice.",
        "Terms: SIZE, MARK within others are asked of the same CELL anew.)"})
    static void sizeOfFronts(Due due) {
        PricedLooks x = Due.of("row ooo;row oao;row ooo;price 0 49;");
        answers(due, x, 11, 0, -8 + 11 + 4900, 12, 11, 10, 21, 20);
        x.price(0, 50);
        answers(due, x, 11, 0, 2 * (-8 + 11 + 5000 - 1000), 13, 12, 11, 10, 23, 21, 20);
        x.price(0, 99);
        answers(due, x, 11, 0, 2 * (-8 + 11 + 9900 - 1000), 13, 12, 11, 10, 23, 21, 20);
        x.price(0, 0);
        answers(due, x, 11, 0, -8 + 11, 12, 11, 10, 21, 20);
    }

    @Says({"Terms: 1 MARK: 20 lent to all CELLS: x and 10 y. 21 of FRONTS: what 20 gives, and 100 times the price. 22 of MIRRORS:"
            + " what 20 gives, and SIZE. 23 of DEAR ones: what 21 gives, less 1000.",
        "Terms: (Of an ask the BODY told for the KIND begins, else that of the nearest KIND that it is, too, else the one that is"
            + " lent;"})
    static void marks(Due due) {
        PricedLooks x = Due.of(TOWN);
        answers(due, x, 0, 1, 0, 20);
        answers(due, x, 1, 1, 1, 20);
        answers(due, x, 2, 1, 2 - 3, 22, 20, 11, 10);
        answers(due, x, 3, 1, 3 + 4900, 21, 20);
        answers(due, x, 4, 1, 4 + 5000 - 1000, 23, 21, 20);
        answers(due, x, 2, 0, -3, 11, 10);
        x = Due.of("row wwwwwwwwww;".repeat(7) + "row wwwwwwwwwf;price 5 99;");
        answers(due, x, 79, 1, 79 + 9900 - 1000, 23, 21, 20);
        answers(due, x, 78, 1, 78, 20);
        answers(due, Due.of("row ooo;row omo;row ooo;"), 11, 1, 11 - 8, 22, 20, 11, 10);
    }

    @Says("26: BAD.")
    static void asksThatAreNone(Due due) {
        PricedLooks x = Due.of(TOWN);
        for (int what : new int[] {-1, 2, 10, LEAST, GREATEST}) {
            due.is("ask(0, " + what + ")", Due.BAD, x.ask(0, what));
        }
        for (int cell : NO_CELLS) {
            due.is("ask(" + cell + ", 0)", Due.BAD, x.ask(cell, 0));
            due.is("ask(" + cell + ", 1)", Due.BAD, x.ask(cell, 1));
        }
        due.is("no trace of them", Due.NONE, x.trace(0));
        due.is("no city", Due.BAD, new PricedLooks().ask(0, 0));
    }

    @Says("26: THE TRACE is empty ahead of it.")
    static void theTraceBeginsAnew(Due due) {
        PricedLooks x = Due.of(TOWN);
        answers(due, x, 4, 0, 2 * (-2 + 4 + 5000 - 1000), 13, 12, 11, 10, 23, 21, 20);
        answers(due, x, 1, 1, 1, 20);
        due.is("a refused ask", Due.BAD, x.ask(1, 2));
        due.is("leaves the trace", 20, x.trace(0));
        due.is("another refused ask", Due.BAD, x.ask(5, 0));
        due.is("leaves the trace", 20, x.trace(0));
        due.is("another city", 0, Due.read(x, "row o;"));
        due.is("leaves the trace", 20, x.trace(0));
    }

    @Says({"27: Number i of THE TRACE", "27: NONE.", "Terms: (the first 16)"})
    static void theTraceAtItsEdges(Due due) {
        PricedLooks x = Due.of(TOWN);
        for (int i : new int[] {-1, 0, 1, 15, 16, LEAST, GREATEST}) {
            due.is("ahead of an ask: trace(" + i + ")", Due.NONE, x.trace(i));
        }
        x.ask(4, 0);
        due.is("the first", 13, x.trace(0));
        due.is("the last", 20, x.trace(6));
        for (int i : new int[] {-1, 7, 15, 16, 17, LEAST, GREATEST}) {
            due.is("trace(" + i + ")", Due.NONE, x.trace(i));
        }
        due.is("no city", Due.NONE, new PricedLooks().trace(0));
    }

    @Says("28: How many: 0 SHEETS, 1 WIDE, 2 HIGH, 3 PEOPLE, 4 fronts, 5 mirrors, 6 bytes on the tape.")
    static void countsAtTheirEdges(Due due) {
        PricedLooks x = new PricedLooks();
        for (int what = 0; what < 7; what++) {
            due.is("new: count(" + what + ")", 0, x.count(what));
        }
        for (int s = 0; s < 8; s++) {
            x.sheet(s, 0, 0);
        }
        x.sheet(3, 1, 40);
        due.is("all sheets", 8, x.count(0));
        Due.read(x, "row abcdefabco;" + "row aaaaaaaaaa;".repeat(7) + "person 9 0 9 0;".repeat(6));
        int[] wants = {8, 10, 8, 6, 79, 0, 0};
        for (int what = 0; what < 7; what++) {
            due.is("large: count(" + what + ")", wants[what], x.count(what));
        }
        Due.read(x, "row mmmmmmmmmm;".repeat(8));
        due.is("all mirrors", 80, x.count(5));
        due.is("no fronts", 0, x.count(4));
        Due.read(x, "row w;");
        int[] small = {8, 1, 1, 0, 0, 0, 0};
        for (int what = 0; what < 7; what++) {
            due.is("small: count(" + what + ")", small[what], x.count(what));
        }
        for (int n = 1; n <= 50; n++) {
            x.feed(0, 8);
        }
        due.is("a full tape", 400, x.count(6));
    }

    @Says("28: BAD.")
    static void countsOfNothing(Due due) {
        for (PricedLooks x : new PricedLooks[] {new PricedLooks(), Due.of(TOWN)}) {
            for (int what : new int[] {-1, 7, 8, LEAST, GREATEST}) {
                due.is("count(" + what + ")", Due.BAD, x.count(what));
            }
        }
    }

    @Says("29: 0: it had none, or there was none.")
    static void statusAtFirst(Due due) {
        PricedLooks x = new PricedLooks();
        due.is("there was none", 0, x.status());
        x.sheet(9, 0, 0);
        x.set(-1, 0, 0);
        x.copy(8, 0, 0, 0, 0);
        x.drop(8);
        x.as(0, 0);
        x.walk(0, 0, 0, 1);
        due.is("refused ones are none", 0, x.status());
        x.drop(0);
        due.is("a finding", 1, x.status());
        x.sheet(0, 0, 0);
        due.is("it had none", 0, x.status());
    }

    @Says({"29: Of the latest call with a SHEET, or as(), that was not BAD, STATE, FULL: the number of its FINDING",
        "Terms: Refusals are answers"})
    static void statusOfTheLatest(Due due) {
        PricedLooks x = Due.of(TOWN + "person 0 0 0 0;");
        x.sheet(0, 0, 1);
        x.sheet(1, 1, 1);
        x.set(0, 0, 99);
        due.is("KIND", Due.KIND, x.as(0, 5));
        int[] refused = {x.sheet(8, 0, 0), x.set(8, 0, 0), x.copy(0, 0, 8, 0, 0), x.drop(-1), x.as(99, 0), x.as(0, 6),
            x.walk(1, 0, 0, 1), x.walk(0, 0, 0, 0), x.walk(0, 0, 0, 1)};
        for (int answer : refused) {
            due.is("BAD", Due.BAD, answer);
        }
        due.is("BAD ones leave it", 3, x.status());
        due.is("STATE", Due.STATE, x.restore(0));
        for (int n = 0; n < 50; n++) {
            x.feed(0, 8);
        }
        due.is("FULL", Due.FULL, x.feed(0, 1));
        x.city();
        x.fault();
        x.look(0, 0, 0);
        x.price(0, 1);
        x.step(0, 0);
        x.person(0, 0);
        x.got(0);
        x.witnesses(0);
        x.home(0, 0, 0);
        x.nothing(0);
        x.beauty(-1);
        x.earns(0, 1);
        x.rivals(-1);
        x.wall(10, 0);
        x.image(0);
        x.restore(0);
        x.kind(0);
        x.ask(0, 0);
        x.trace(0);
        x.count(0);
        due.is("calls without a sheet leave it", 3, x.status());
        due.is("asked twice", 3, x.status());
        int[] found = {x.drop(7), x.status(), x.set(0, 1, 0), x.status(), x.as(0, 2), x.status(), x.sheet(0, 0, -1), x.status(),
            x.copy(0, 0, 1, 0, 0), x.status(), x.copy(0, 0, 0, 0, 2), x.status(), x.walk(0, 7, 0, 1), x.status(),
            x.walk(0, 0, 1, 1), x.status()};
        int[] numbers = {1, 2, 3, 4, 5, 2, 1, 2};
        for (int n = 0; n < numbers.length; n++) {
            due.is("finding " + n, -1000010 - numbers[n], found[2 * n]);
            due.is("its number", numbers[n], found[2 * n + 1]);
        }
        int[] fine = {x.set(0, 0, 0), x.status(), x.drop(7), x.walk(0, 0, 0, 1), x.status(), x.drop(7), x.copy(0, 0, 0, 0, 1),
            x.status(), x.drop(7), x.as(0, 1), x.status(), x.drop(7), x.drop(0), x.status()};
        for (int n : new int[] {1, 4, 7, 10, 13}) {
            due.is("0 behind one that had none, " + n, 0, fine[n]);
        }
        due.is("a finding between", Due.NULL, fine[2]);
    }
}
