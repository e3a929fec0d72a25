/** Boundary cases of looks, prices, steps, walks and books: promises 9 to 15. */
final class StepBounds {
    private static final int LEAST = Integer.MIN_VALUE, GREATEST = Integer.MAX_VALUE;
    private static final int[] NO_OWNERS = {-1, 6, 7, LEAST, GREATEST};

    /** One as most, a child, one who is guided, in a corridor between two fronts. */
    private static final String CORRIDOR = "row aooob;price 0 3;price 1 5 free;"
            + "person 2 0 2 0;person 2 0 2 0 child;person 2 0 2 0 guided;";

    private StepBounds() {
    }

    private static void sees(Due due, PricedLooks x, int cell, int way, int seen, int price, int mirrors) {
        String from = "look(" + cell + ", " + way + ", ";
        due.is(from + "0)", seen, x.look(cell, way, 0));
        due.is(from + "1)", price, x.look(cell, way, 1));
        due.is(from + "2)", mirrors, x.look(cell, way, 2));
    }

    private static void is(Due due, PricedLooks x, int person, int cell, int paid, int gone) {
        due.is("where " + person + " is", cell, x.person(person, 0));
        due.is("what " + person + " paid", paid, x.person(person, 3));
        due.is("steps of " + person, gone, x.person(person, 4));
    }

    @Says({"Terms: Numbers go from 0 on.", "Terms: CELLS: x and 10 y; x to the east, y to the south."})
    static void cellsAtTheEdgesOfTheCity(Due due) {
        PricedLooks x = Due.of("row owo;row wow;");
        int[] kinds = {1, 2, 1, 2, 1, 2};
        for (int n = 0; n < 6; n++) {
            due.is("cell " + (n % 3 + n / 3 * 10), kinds[n], x.kind(n % 3 + n / 3 * 10));
        }
        for (int cell : new int[] {-1, 3, 9, 13, 19, 20, 22, -10, -11, 80, 100, LEAST, GREATEST}) {
            due.is("no cell " + cell, Due.BAD, x.kind(cell));
            due.is("no look from " + cell, Due.BAD, x.look(cell, 0, 0));
        }
        x = Due.of("row oooooooooo;".repeat(8));
        due.is("the first", 1, x.kind(0));
        due.is("the last", 1, x.kind(79));
        due.is("one more", Due.BAD, x.kind(80));
        due.is("one less", Due.BAD, x.kind(-1));
    }

    @Says("Terms: WAYS 0 .. 7: north, northeast, east, and so on round.")
    static void theEightWays(Due due) {
        PricedLooks x = Due.of("row www;row wow;row www;");
        int[] cells = {1, 2, 12, 22, 21, 20, 10, 0};
        for (int way = 0; way < 8; way++) {
            due.is("look(11, " + way + ", 0)", cells[way], x.look(11, way, 0));
        }
        x = Due.of("row ooo;row ooo;row ooo;person 1 1 1 1;");
        x.image(0);
        for (int way = 0; way < 8; way++) {
            x.restore(0);
            x.step(0, way);
            due.is("where a step " + way + " leads", cells[way], x.person(0, 0));
        }
    }

    @Says({"Terms: A LOOK from a CELL in a WAY: the first CELL that is not open, from the next on",
        "Terms: beyond the city: nothing. A mirror"})
    static void looksDoNotGoRoundTheEdge(Due due) {
        PricedLooks x = Due.of("row oooooooooo;row aoooooooob;row oooooooooo;price 0 1;price 1 2;person 9 0 0 2;person 0 2 0 0;");
        sees(due, x, 9, 2, Due.NONE, 0, 0);
        sees(due, x, 9, 1, Due.NONE, 0, 0);
        sees(due, x, 9, 3, Due.NONE, 0, 0);
        sees(due, x, 20, 6, Due.NONE, 0, 0);
        sees(due, x, 20, 5, Due.NONE, 0, 0);
        sees(due, x, 20, 7, Due.NONE, 0, 0);
        sees(due, x, 9, 4, 19, 2, 0);
        sees(due, x, 20, 0, 10, 1, 0);
        sees(due, x, 11, 2, 19, 2, 0);
        sees(due, x, 18, 6, 10, 1, 0);
        due.is("a step beyond the east edge", 0, x.step(0, 2));
        is(due, x, 0, 9, 0, 1);
        due.is("a step beyond the west edge", 0, x.step(1, 6));
        is(due, x, 1, 20, 0, 1);
        due.is("a step beyond the south edge", 0, x.step(1, 4));
        is(due, x, 1, 20, 0, 2);
        due.is("a step beyond the north edge", 0, x.step(0, 0));
        is(due, x, 0, 9, 0, 2);
    }

    @Says("Terms: beyond the city: nothing. A mirror")
    static void beyondEveryEdge(Due due) {
        for (String rows : new String[] {"row o;", "row oo;row oo;", "row oooooooooo;".repeat(8)}) {
            PricedLooks x = Due.of(rows + "person 0 0 0 0;");
            int wide = x.count(1);
            int cells = wide * x.count(2);
            for (int n = 0; n < cells; n++) {
                for (int way = 0; way < 8; way++) {
                    sees(due, x, n % wide + n / wide * 10, way, Due.NONE, 0, 0);
                }
            }
        }
    }

    @Says("Terms: the first CELL that is not open, from the next on")
    static void theNextCellAndTheFarthest(Due due) {
        PricedLooks x = Due.of("row oa;price 0 7;");
        sees(due, x, 0, 2, 1, 7, 0);
        x = Due.of("row oooooooooa;price 0 7;");
        sees(due, x, 0, 2, 9, 7, 0);
        x = Due.of("row oab;price 0 7;price 1 9;");
        sees(due, x, 0, 2, 1, 7, 0);
        x = Due.of("row o;" + "row o;".repeat(6) + "row f;price 5 99;");
        sees(due, x, 0, 4, 70, 99, 0);
        x = Due.of("row oooooooo;" + "row oooooooo;".repeat(6) + "row oooooooc;price 2 4;");
        sees(due, x, 0, 3, 77, 4, 0);
        sees(due, x, 66, 3, 77, 4, 0);
        sees(due, x, 67, 4, 77, 4, 0);
    }

    @Says({"Terms: A mirror: the LOOK goes on from the CELL where it began, the opposite WAY, to the first CELL that is not open"
            + " there: that is seen, at double the price",
        "9: by how many mirrors (2)."})
    static void aLookByAMirror(Due due) {
        PricedLooks x = Due.of("row moooa;price 0 99;");
        sees(due, x, 1, 6, 4, 198, 1);
        sees(due, x, 3, 6, 4, 198, 1);
        sees(due, x, 3, 2, 4, 99, 0);
        x.price(0, 0);
        sees(due, x, 1, 6, 4, 0, 1);
        sees(due, Due.of("row mow;"), 1, 6, 2, 0, 1);
        int[] far = {1, 2, 12, 22, 21, 20, 10, 0};
        for (int way = 0; way < 8; way++) {
            char[] signs = "wwwwowwww".toCharArray();
            signs[far[way] / 10 * 3 + far[way] % 10] = 'm';
            signs[far[(way + 4) % 8] / 10 * 3 + far[(way + 4) % 8] % 10] = 'e';
            String s = new String(signs);
            x = Due.of("row " + s.substring(0, 3) + ";row " + s.substring(3, 6) + ";row " + s.substring(6) + ";price 4 6;");
            sees(due, x, 11, way, far[(way + 4) % 8], 12, 1);
        }
    }

    @Says("Terms: (a second mirror, or beyond the city: nothing).")
    static void aMirrorThatShowsNothing(Due due) {
        sees(due, Due.of("row mom;"), 1, 6, Due.NONE, 0, 2);
        sees(due, Due.of("row mom;"), 1, 2, Due.NONE, 0, 2);
        sees(due, Due.of("row moo;"), 1, 6, Due.NONE, 0, 1);
        sees(due, Due.of("row moo;"), 2, 6, Due.NONE, 0, 1);
        sees(due, Due.of("row mooa;row mooa;price 0 9;"), 1, 0, Due.NONE, 0, 0);
        PricedLooks x = Due.of("row moo;person 1 0 1 0;");
        due.is("a step to it", 0, x.step(0, 6));
        is(due, x, 0, 1, 0, 1);
        due.is("nobody was looked at", 1, x.witnesses(0));
    }

    @Says({"Terms: A front: P of its OWNER for the blink; a wall, nothing: 0.", "9: its price (1; 0: none)",
        "9: which CELL is seen (what = 0; NONE: nothing)"})
    static void pricesOfWhatIsSeen(Due due) {
        PricedLooks x = Due.of("row wofo;price 5 99;price 0 50;");
        sees(due, x, 1, 2, 2, 99, 0);
        sees(due, x, 1, 6, 0, 0, 0);
        sees(due, x, 3, 2, Due.NONE, 0, 0);
        x.price(5, 0);
        sees(due, x, 1, 2, 2, 0, 0);
    }

    @Says({"9: The LOOK from an open CELL in a WAY", "9: BAD."})
    static void looksThatAreNone(Due due) {
        PricedLooks x = Due.of("row owma;row oooo;");
        for (int cell : new int[] {1, 2, 3, 4, 14, 20, -1, 80, LEAST, GREATEST}) {
            for (int what = 0; what < 3; what++) {
                due.is("look(" + cell + ", 0, " + what + ")", Due.BAD, x.look(cell, 0, what));
            }
        }
        for (int way : new int[] {-1, 8, 15, LEAST, GREATEST}) {
            due.is("look(0, " + way + ", 0)", Due.BAD, x.look(0, way, 0));
        }
        for (int what : new int[] {-1, 3, LEAST, GREATEST}) {
            due.is("look(0, 0, " + what + ")", Due.BAD, x.look(0, 0, what));
        }
        due.is("look(13, 7, 2)", 1, x.look(13, 7, 2));
        due.is("no city", Due.BAD, new PricedLooks().look(0, 0, 0));
    }

    @Says("10: A price of an OWNER (0 to 99) from now on: what it was.")
    static void aPriceFromNowOn(Due due) {
        PricedLooks x = Due.of(CORRIDOR);
        due.is("paid ahead of it", 3, x.step(0, 6));
        due.is("to 99", 3, x.price(0, 99));
        due.is("what was paid is as it was", 3, x.got(0));
        due.is("paid behind it", 99, x.step(0, 6));
        due.is("to 0", 99, x.price(0, 0));
        due.is("paid behind that", 0, x.step(0, 6));
        due.is("got", 102, x.got(0));
        due.is("the other's is as it was", 5, x.price(1, 5));
        due.is("of one without a front", 0, x.price(5, 1));
        due.is("what it was", 1, x.price(5, 1));
        x.price(1, 7);
        due.is("free is as it was", 0, x.step(1, 2));
        x = Due.of("row oa;person 0 0 0 0 child;");
        x.price(0, 4);
        due.is("one of whom none was told is not free", 4, x.step(0, 2));
    }

    @Says("10: BAD")
    static void aPriceThatIsNone(Due due) {
        PricedLooks x = Due.of(CORRIDOR);
        for (int owner : NO_OWNERS) {
            due.is("price(" + owner + ", 1)", Due.BAD, x.price(owner, 1));
        }
        for (int p : new int[] {-1, 100, LEAST, GREATEST}) {
            due.is("price(0, " + p + ")", Due.BAD, x.price(0, p));
        }
        due.is("it is as it was", 3, x.look(2, 6, 1));
        due.is("an owner's and a price's edge", 0, x.price(5, 99));
    }

    @Says({"10: STATE: no CITY (ahead of BAD).", "Terms: STATE (as told)"})
    static void aPriceInNoCity(Due due) {
        PricedLooks x = new PricedLooks();
        due.is("price(0, 0)", Due.STATE, x.price(0, 0));
        due.is("price(6, 0)", Due.STATE, x.price(6, 0));
        due.is("price(0, 100)", Due.STATE, x.price(0, 100));
        due.is("price(-1, -1)", Due.STATE, x.price(-1, -1));
        Due.read(x, "row o;price 6 0;");
        due.is("behind a fault", Due.STATE, x.price(0, 0));
    }

    @Says({"11: A STEP of somebody in a WAY", "Terms: A STEP of somebody in a WAY: he LOOKS that way from where he is, and pays",
        "Terms: then he goes one CELL that way, if that is open; else he stays."})
    static void aStepLooksAheadOfGoing(Due due) {
        PricedLooks x = Due.of("row omooa;row ooooo;price 0 8;person 2 0 2 0;");
        due.is("from where he is: by the mirror beside him", 16, x.step(0, 6));
        is(due, x, 0, 2, 16, 1);
        due.is("against nothing of a front, but on", 8, x.step(0, 2));
        is(due, x, 0, 3, 24, 2);
        due.is("he pays and stays", 8, x.step(0, 2));
        is(due, x, 0, 3, 32, 3);
        due.is("nothing, and on", 0, x.step(0, 4));
        is(due, x, 0, 13, 32, 4);
        due.is("nothing, and he stays", 0, x.step(0, 4));
        is(due, x, 0, 13, 32, 5);
    }

    @Says("Terms: (a child nothing to whose price is free; one who is guided and BLIND in this STEP does not look)")
    static void whoPaysNothing(Due due) {
        PricedLooks x = Due.of(CORRIDOR);
        due.is("one as most", 5, x.step(0, 2));
        due.is("a child, free", 0, x.step(1, 2));
        is(due, x, 1, 3, 0, 1);
        due.is("she looked", 1, x.person(1, 21));
        due.is("a child, not free", 3, x.step(1, 6));
        due.is("guided, not blind", 5, x.step(2, 2));
        due.is("guided, blind", 0, x.step(2, 14));
        is(due, x, 2, 2, 5, 2);
        due.is("he did not look", 0, x.person(2, 20));
        due.is("he looked once at b", 1, x.person(2, 21));
        due.is("who has not looked at a", 5, x.witnesses(0));
    }

    @Says("Terms: PAID: by PEOPLE and OWNERS, in all; BLINKS: how often he looked at a front of an OWNER.")
    static void booksThatNetToNothing(Due due) {
        PricedLooks x = Due.of("row aomb;row ooof;price 0 3;price 1 0;price 5 99;person 1 0 1 0;person 1 1 1 0;");
        x.step(0, 6);
        x.step(0, 6);
        x.step(0, 2);
        x.step(1, 2);
        due.is("paid by 0 to a", 12, x.person(0, 10));
        due.is("blinks: one for each look, also by a mirror", 3, x.person(0, 20));
        due.is("paid by 0 in all", 12, x.person(0, 3));
        due.is("paid by 1 to f", 99, x.person(1, 15));
        due.is("got(0)", 12, x.got(0));
        due.is("got(5)", 99, x.got(5));
        due.is("got(1)", 0, x.got(1));
        x = Due.of("row aob;price 0 0;person 1 0 1 0;");
        due.is("a price of 0", 0, x.step(0, 6));
        due.is("is a blink", 1, x.person(0, 20));
    }

    @Says("Terms: PAID: by PEOPLE and OWNERS, in all")
    static void booksOfSixPeopleAndSixOwners(Due due) {
        PricedLooks x = Due.of("row abc;row dof;row eww;price 0 1;price 1 2;price 2 4;price 3 8;price 4 16;price 5 32;"
                + "person 1 1 1 1;".repeat(6));
        int[] ways = {7, 0, 1, 6, 5, 2};
        for (int p = 0; p < 6; p++) {
            for (int owner = 0; owner <= p; owner++) {
                due.is(p + " looks at " + owner, 1 << owner, x.step(p, ways[owner]));
            }
        }
        for (int p = 0; p < 6; p++) {
            due.is("paid by " + p, (2 << p) - 1, x.person(p, 3));
            for (int owner = 0; owner < 6; owner++) {
                due.is("paid by " + p + " to " + owner, owner <= p ? 1 << owner : 0, x.person(p, 10 + owner));
                due.is("blinks of " + p + " at " + owner, owner <= p ? 1 : 0, x.person(p, 20 + owner));
            }
            due.is("got by " + p, (6 - p) << p, x.got(p));
            due.is("who has not looked at " + p, (1 << p) - 1, x.witnesses(p));
        }
    }

    @Says("11: (8 and the WAY: BLIND, if he is guided): what he paid.")
    static void blindStepsOfOneWhoIsGuided(Due due) {
        PricedLooks x = Due.of("row ooo;row ooo;row ooo;person 1 1 1 1 guided;person 1 1 1 1;person 1 1 1 1 child;");
        x.image(0);
        int[] cells = {1, 2, 12, 22, 21, 20, 10, 0};
        for (int way = 0; way < 8; way++) {
            x.restore(0);
            due.is("step(0, " + (8 + way) + ")", 0, x.step(0, 8 + way));
            due.is("where he is", cells[way], x.person(0, 0));
            due.is("step(1, " + (8 + way) + ")", Due.BAD, x.step(1, 8 + way));
            due.is("step(2, " + (8 + way) + ")", Due.BAD, x.step(2, 8 + way));
            is(due, x, 1, 11, 0, 0);
            is(due, x, 2, 11, 0, 0);
        }
    }

    @Says("11: (8 and the WAY: BLIND, if he is guided): what he paid.")
    static void blindStepsLookNowhere(Due due) {
        PricedLooks x = Due.of("row fff;row fof;row fff;price 5 9;person 1 1 1 1 guided;");
        for (int way = 0; way < 8; way++) {
            due.is("blind, way " + way, 0, x.step(0, 8 + way));
            is(due, x, 0, 11, 0, way + 1);
            due.is("he has not looked", 1, x.witnesses(5));
        }
        for (int way = 0; way < 8; way++) {
            due.is("not blind, way " + way, 9, x.step(0, way));
            is(due, x, 0, 11, 9 * (way + 1), way + 9);
            due.is("he looked", way + 1, x.person(0, 25));
        }
    }

    @Says("11: BAD.")
    static void stepsThatAreNone(Due due) {
        PricedLooks x = Due.of(CORRIDOR);
        for (int person : new int[] {-1, 3, 5, 6, LEAST, GREATEST}) {
            due.is("step(" + person + ", 2)", Due.BAD, x.step(person, 2));
        }
        for (int way : new int[] {-1, 16, 17, LEAST, GREATEST}) {
            for (int person = 0; person < 3; person++) {
                due.is("step(" + person + ", " + way + ")", Due.BAD, x.step(person, way));
            }
        }
        due.is("step(0, 8)", Due.BAD, x.step(0, 8));
        due.is("step(1, 8)", Due.BAD, x.step(1, 8));
        for (int person = 0; person < 3; person++) {
            is(due, x, person, 2, 0, 0);
        }
        due.is("no city", Due.BAD, new PricedLooks().step(0, 0));
    }

    @Says("12: STEPS by a row, n of them (1 to 40), ITEMS of a SHEET from i on: what he paid.")
    static void walksOfOneToForty(Due due) {
        PricedLooks x = Due.of(CORRIDOR);
        x.sheet(0, 0, 40);
        for (int i = 0; i < 40; i++) {
            x.set(0, i, i % 2 == 0 ? 2 : 6);
        }
        due.is("one", 5, x.walk(0, 0, 0, 1));
        is(due, x, 0, 3, 5, 1);
        due.is("one, the last", 3, x.walk(0, 0, 39, 1));
        is(due, x, 0, 2, 8, 2);
        due.is("forty", 160, x.walk(0, 0, 0, 40));
        is(due, x, 0, 2, 168, 42);
        due.is("a child, free to the one", 60, x.walk(1, 0, 0, 40));
        x.set(0, 38, 10);
        x.set(0, 39, 14);
        due.is("two of them blind", 0, x.walk(2, 0, 38, 2));
        is(due, x, 2, 2, 0, 2);
    }

    @Says("12: BAD: one, SHEET, n")
    static void walksThatAreNone(Due due) {
        PricedLooks x = Due.of(CORRIDOR);
        x.sheet(0, 0, 40);
        for (int person : new int[] {-1, 3, 6, LEAST, GREATEST}) {
            due.is("walk(" + person + ", 0, 0, 1)", Due.BAD, x.walk(person, 0, 0, 1));
        }
        for (int sheet : new int[] {-1, 8, LEAST, GREATEST}) {
            due.is("walk(0, " + sheet + ", 0, 1)", Due.BAD, x.walk(0, sheet, 0, 1));
        }
        for (int n : new int[] {0, -1, 41, LEAST, GREATEST}) {
            due.is("walk(0, 0, 0, " + n + ")", Due.BAD, x.walk(0, 0, 0, n));
            due.is("BAD ahead of NULL: n " + n, Due.BAD, x.walk(0, 7, 0, n));
            due.is("BAD ahead of PLACE: n " + n, Due.BAD, x.walk(0, 0, -1, n));
        }
        due.is("BAD ahead of NULL: one", Due.BAD, x.walk(3, 7, 0, 1));
        due.is("status is as it was", 0, x.status());
        is(due, x, 0, 2, 0, 0);
        due.is("no city", Due.BAD, new PricedLooks().walk(0, 0, 0, 1));
    }

    @Says("12: NULL")
    static void aWalkByAMissingSheet(Due due) {
        PricedLooks x = Due.of(CORRIDOR);
        due.is("missing", Due.NULL, x.walk(0, 7, 0, 1));
        due.is("status", 1, x.status());
        due.is("ahead of PLACE", Due.NULL, x.walk(0, 7, -1, 40));
        x.sheet(7, 0, 1);
        due.is("there", 0, x.walk(0, 7, 0, 1));
        due.is("status", 0, x.status());
        x.drop(7);
        due.is("dropped", Due.NULL, x.walk(0, 7, 0, 1));
        is(due, x, 0, 2, 0, 1);
    }

    @Says("12: PLACE")
    static void aWalkBeyondASheet(Due due) {
        PricedLooks x = Due.of(CORRIDOR);
        x.sheet(0, 0, 3);
        int[] from = {-1, 3, 1, 0, 4, LEAST, GREATEST, GREATEST};
        int[] many = {1, 1, 3, 4, 1, 40, 1, 40};
        for (int k = 0; k < from.length; k++) {
            due.is("walk(0, 0, " + from[k] + ", " + many[k] + ")", Due.PLACE, x.walk(0, 0, from[k], many[k]));
            due.is("status", 2, x.status());
        }
        x.sheet(1, 0, 0);
        due.is("of an empty one", Due.PLACE, x.walk(0, 1, 0, 1));
        is(due, x, 0, 2, 0, 0);
        due.is("up to the end", 0, x.walk(0, 0, 0, 3));
        due.is("the last one", 0, x.walk(0, 0, 2, 1));
    }

    @Says("12: then BAD: an ITEM.")
    static void aWalkByAnItemThatIsNoStep(Due due) {
        PricedLooks x = Due.of(CORRIDOR);
        x.sheet(0, 2, 3);
        x.set(0, 0, 2);
        x.set(0, 1, 2);
        for (int item : new int[] {8, 15, 16, -1, 256, LEAST, GREATEST}) {
            x.set(0, 2, item);
            due.is("the last is " + item, Due.BAD, x.walk(0, 0, 0, 3));
            due.is("a child, " + item, Due.BAD, x.walk(1, 0, 0, 3));
            is(due, x, 0, 2, 0, 0);
            is(due, x, 1, 2, 0, 0);
            boolean blind = item == 8 || item == 15;
            due.is("one who is guided, " + item, blind ? 0 : Due.BAD, x.walk(2, 0, 2, 1));
        }
        due.is("an item that is not gone by is not looked at", 10, x.walk(0, 0, 0, 2));
        due.is("PLACE ahead of it", Due.PLACE, x.walk(0, 0, 2, 2));
        x.as(0, 1);
        due.is("status KIND", 3, x.status());
        due.is("BAD", Due.BAD, x.walk(0, 0, 2, 1));
        due.is("leaves status", 3, x.status());
    }

    @Says("13: Of somebody: 0 his CELL, 1 his home, 2 how he is (0 as most, 1 a child, 2 guided), 3 PAID in all, 4 STEPS gone")
    static void whatIsToldOfSomebody(Due due) {
        PricedLooks x = Due.of("row ooa;row ooo;price 0 2;person 0 0 2 1;person 1 0 0 0 child;person 0 1 0 1 guided;");
        int[][] wants = {{0, 12, 0, 0, 0}, {1, 0, 1, 0, 0}, {10, 10, 2, 0, 0}};
        for (int p = 0; p < 3; p++) {
            for (int what = 0; what < 5; what++) {
                due.is("person(" + p + ", " + what + ")", wants[p][what], x.person(p, what));
            }
        }
        x.step(0, 0);
        due.is("a step that stays is gone", 1, x.person(0, 4));
        x.step(2, 16);
        due.is("a refused one is not", 0, x.person(2, 4));
        x.step(2, 8);
        due.is("a blind one is", 1, x.person(2, 4));
        x.step(0, 2);
        due.is("his home stays", 12, x.person(0, 1));
        due.is("his cell", 1, x.person(0, 0));
        due.is("paid", 2, x.person(0, 3));
    }

    @Says({"13: 10 and on: PAID to an OWNER", "13: 20 and on: BLINKS at his fronts."})
    static void paidToTheFirstAndTheLastOwner(Due due) {
        PricedLooks x = Due.of("row aof;price 0 3;price 5 99;person 1 0 1 0;");
        x.step(0, 2);
        x.step(0, 6);
        x.step(0, 6);
        int[] paid = {6, 0, 0, 0, 0, 99};
        int[] blinks = {2, 0, 0, 0, 0, 1};
        for (int owner = 0; owner < 6; owner++) {
            due.is("person(0, " + (10 + owner) + ")", paid[owner], x.person(0, 10 + owner));
            due.is("person(0, " + (20 + owner) + ")", blinks[owner], x.person(0, 20 + owner));
        }
    }

    @Says("13: BAD.")
    static void whatIsNotToldOfSomebody(Due due) {
        PricedLooks x = Due.of(CORRIDOR);
        for (int what : new int[] {-1, 5, 9, 16, 19, 26, 30, 100, LEAST, LEAST + 9, LEAST + 19, LEAST + 25, GREATEST}) {
            due.is("person(0, " + what + ")", Due.BAD, x.person(0, what));
        }
        for (int person : new int[] {-1, 3, 5, 6, LEAST, GREATEST}) {
            for (int what : new int[] {0, 4, 10, 15, 20, 25}) {
                due.is("person(" + person + ", " + what + ")", Due.BAD, x.person(person, what));
            }
        }
        due.is("no city", Due.BAD, new PricedLooks().person(0, 0));
    }

    @Says({"14: What an OWNER got in all.", "14: BAD"})
    static void whatOwnersGot(Due due) {
        PricedLooks x = Due.of("row aof;price 0 3;price 5 99;person 1 0 1 0;person 1 0 1 0 guided;");
        due.is("nothing yet", 0, x.got(0));
        x.step(0, 6);
        x.step(1, 6);
        x.step(1, 14);
        x.step(1, 2);
        int[] got = {6, 0, 0, 0, 0, 99};
        for (int owner = 0; owner < 6; owner++) {
            due.is("got(" + owner + ")", got[owner], x.got(owner));
        }
        for (int owner : NO_OWNERS) {
            due.is("got(" + owner + ")", Due.BAD, x.got(owner));
        }
    }

    @Says({"14: STATE: no CITY (ahead of BAD).", "15: STATE: no CITY (ahead of BAD)."})
    static void booksOfNoCity(Due due) {
        PricedLooks x = new PricedLooks();
        for (int owner : new int[] {0, 5, -1, 6, LEAST, GREATEST}) {
            due.is("got(" + owner + ")", Due.STATE, x.got(owner));
            due.is("witnesses(" + owner + ")", Due.STATE, x.witnesses(owner));
        }
    }

    @Says({"15: Who has not looked at a front of an OWNER (bits).", "Terms: Sets are bits."})
    static void whoHasNotLooked(Due due) {
        due.is("nobody is there", 0, Due.of("row oa;").witnesses(0));
        PricedLooks x = Due.of("row oa;" + "person 0 0 0 0;".repeat(5) + "person 0 0 0 0 guided;");
        due.is("nobody of six has looked", 63, x.witnesses(0));
        x.step(5, 10);
        due.is("a blind one has not", 63, x.witnesses(0));
        x.step(5, 2);
        due.is("the last has", 31, x.witnesses(0));
        x.step(0, 2);
        due.is("the first has", 30, x.witnesses(0));
        for (int p = 1; p < 5; p++) {
            x.step(p, 2);
        }
        due.is("all have", 0, x.witnesses(0));
        due.is("at one without a front", 63, x.witnesses(5));
    }

    @Says("15: BAD")
    static void witnessesOfNoOwner(Due due) {
        PricedLooks x = Due.of(CORRIDOR);
        for (int owner : NO_OWNERS) {
            due.is("witnesses(" + owner + ")", Due.BAD, x.witnesses(owner));
        }
        due.is("witnesses(5)", 7, x.witnesses(5));
    }

    @Says("What it is: An object is used for at most 512 calls after it has been made; what later calls answer is free.")
    static void fiveHundredAndTwelveCalls(Due due) {
        PricedLooks x = new PricedLooks();
        String text = "row mofo;price 5 99;person 1 0 1 0;";
        int calls = (text.length() + 7) / 8 + 1;
        Due.read(x, text);
        x.sheet(0, 0, 40);
        calls++;
        for (int i = 0; i < 40; i++) {
            x.set(0, i, 6);
            calls++;
        }
        int paid = 0;
        while (calls < 509) {
            due.is("forty looks by a mirror", 40 * 198, x.walk(0, 0, 0, 40));
            paid += 40 * 198;
            calls++;
        }
        due.is("paid in all", paid, x.person(0, 3));
        due.is("blinks", paid / 198, x.person(0, 25));
        due.is("got, by the 512th call", paid, x.got(5));
    }
}
