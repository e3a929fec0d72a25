/** Boundary cases of sheets: promises 1 to 5. */
final class SheetBounds {
    private static final int LEAST = Integer.MIN_VALUE, GREATEST = Integer.MAX_VALUE;
    private static final int[] NO_SHEETS = {-1, 8, 9, LEAST, GREATEST};

    private SheetBounds() {
    }

    /** One who is guided in the middle of nine cells, kept as image 0: each item 0 .. 7 leads him to another cell. */
    private static PricedLooks withWalker() {
        PricedLooks x = Due.of("row ooo;row ooo;row ooo;person 1 1 0 0 guided;");
        x.image(0);
        return x;
    }

    /** An item as a way, told by where it leads; -1: it is no way. */
    private static int way(PricedLooks x, int sheet, int i) {
        x.restore(0);
        if (x.walk(0, sheet, i, 1) < 0) {
            return -1;
        }
        int cell = x.person(0, 0);
        int[] ways = {1, 2, 12, 22, 21, 20, 10, 0};
        for (int way = 0; way < 8; way++) {
            if (ways[way] == cell) {
                return way;
            }
        }
        return -1;
    }

    private static PricedLooks withItems(int lane, int... items) {
        PricedLooks x = withWalker();
        x.sheet(0, lane, items.length);
        for (int i = 0; i < items.length; i++) {
            x.set(0, i, items[i]);
        }
        return x;
    }

    private static void areItems(Due due, String what, PricedLooks x, int sheet, int... items) {
        for (int i = 0; i < items.length; i++) {
            due.is(what + ", item " + i + " of " + sheet, items[i], way(x, sheet, i));
        }
        due.is(what + ", items of " + sheet, Due.PLACE, x.set(sheet, items.length, 0));
    }

    @Says({"1: No CITY.", "Terms: (none at first)"})
    static void aNewObjectHasNoCity(Due due) {
        PricedLooks x = new PricedLooks();
        due.is("wide", 0, x.count(1));
        due.is("high", 0, x.count(2));
        due.is("people", 0, x.count(3));
        due.is("price", Due.STATE, x.price(0, 0));
        due.is("got", Due.STATE, x.got(0));
        due.is("witnesses", Due.STATE, x.witnesses(0));
        due.is("beauty", Due.STATE, x.beauty(-1));
        due.is("earns", Due.STATE, x.earns(0, 0));
        due.is("rivals", Due.STATE, x.rivals(-1));
        due.is("image", Due.STATE, x.image(0));
        due.is("restore", Due.STATE, x.restore(0));
        due.is("look", Due.BAD, x.look(0, 0, 0));
        due.is("step", Due.BAD, x.step(0, 0));
        due.is("person", Due.BAD, x.person(0, 0));
        due.is("home", Due.BAD, x.home(0, 0, -1));
        due.is("nothing", Due.BAD, x.nothing(0));
        due.is("wall", Due.BAD, x.wall(0, 0));
        due.is("kind", Due.BAD, x.kind(0));
        due.is("as", Due.BAD, x.as(0, 0));
        due.is("ask", Due.BAD, x.ask(0, 0));
    }

    @Says("Terms: SHEETS 0 .. 7 are missing (at first)")
    static void allSheetsAreMissingAtFirst(Due due) {
        PricedLooks x = new PricedLooks();
        due.is("count(0)", 0, x.count(0));
        for (int s = 0; s < 8; s++) {
            due.is("set(" + s + ")", Due.NULL, x.set(s, 0, 0));
            due.is("drop(" + s + ")", Due.NULL, x.drop(s));
            due.is("copy(" + s + ")", Due.NULL, x.copy(s, 0, s, 0, 0));
        }
        for (int s = 0; s < 8; s++) {
            due.is("sheet(" + s + ")", 1, x.sheet(s, 0, 1));
            due.is("count(0)", s + 1, x.count(0));
        }
    }

    @Says({"2: BAD: SHEET, LANE", "Terms: or have a LANE (0 bytes, 1 shorts, 2 ints)"})
    static void aSheetOfNoNumberOrNoLane(Due due) {
        PricedLooks x = new PricedLooks();
        for (int s : NO_SHEETS) {
            due.is("sheet(" + s + ", 0, 1)", Due.BAD, x.sheet(s, 0, 1));
        }
        for (int lane : new int[] {-1, 3, 4, LEAST, GREATEST}) {
            due.is("sheet(0, " + lane + ", 1)", Due.BAD, x.sheet(0, lane, 1));
        }
        due.is("none was made", 0, x.count(0));
        for (int lane = 0; lane < 3; lane++) {
            due.is("sheet(7, " + lane + ", 1)", 1, x.sheet(7, lane, 1));
        }
        due.is("one was made", 1, x.count(0));
    }

    @Says({"2: n above 40", "Terms: and 0 to 40 ITEMS"})
    static void moreItemsThanForty(Due due) {
        PricedLooks x = new PricedLooks();
        due.is("39", 39, x.sheet(0, 0, 39));
        due.is("40", 40, x.sheet(0, 0, 40));
        due.is("41", Due.BAD, x.sheet(0, 0, 41));
        due.is("the greatest", Due.BAD, x.sheet(0, 2, GREATEST));
        due.is("the last of forty is still there", 7, x.set(0, 39, 7));
        due.is("there is no 41st", Due.PLACE, x.set(0, 40, 7));
    }

    @Says({"2: SIZE.", "Terms: 4 SIZE (fewer than none)"})
    static void fewerItemsThanNone(Due due) {
        PricedLooks x = new PricedLooks();
        due.is("-1", -1000014, x.sheet(0, 0, -1));
        due.is("status", 4, x.status());
        due.is("the least", -1000014, x.sheet(0, 0, LEAST));
        due.is("none was made", 0, x.count(0));
        due.is("0", 0, x.sheet(0, 0, 0));
        due.is("status", 0, x.status());
        due.is("an empty one was made", 1, x.count(0));
        due.is("BAD ahead of it: sheet", Due.BAD, x.sheet(8, 0, -1));
        due.is("BAD ahead of it: lane", Due.BAD, x.sheet(0, 3, -1));
    }

    @Says({"2: A SHEET of a LANE with n ITEMS, in place of what is there: n.", "Terms: 0 at first."})
    static void aSheetInPlaceOfAnother(Due due) {
        PricedLooks x = withItems(2, 3, 4, 5);
        due.is("as many", 3, x.sheet(0, 2, 3));
        areItems(due, "as many", x, 0, 0, 0, 0);
        x.set(0, 1, 6);
        due.is("fewer", 1, x.sheet(0, 1, 1));
        areItems(due, "fewer", x, 0, 0);
        due.is("more", 4, x.sheet(0, 0, 4));
        areItems(due, "more", x, 0, 0, 0, 0, 0);
        due.is("it has the new lane", 1, x.set(0, 3, 257));
        due.is("none", 0, x.sheet(0, 0, 0));
        areItems(due, "none", x, 0);
        due.is("one sheet all the while", 1, x.count(0));
    }

    @Says("Terms: What is refused, or found, changes nothing but status().")
    static void aRefusedSheetLeavesWhatIsThere(Due due) {
        PricedLooks x = withItems(0, 3, 4, 5);
        x.sheet(0, 1, 41);
        areItems(due, "41", x, 0, 3, 4, 5);
        x.sheet(0, 3, 2);
        areItems(due, "lane 3", x, 0, 3, 4, 5);
        x.sheet(0, 2, -1);
        areItems(due, "-1", x, 0, 3, 4, 5);
        due.is("the lane is as it was", -128, x.set(0, 0, 128));
    }

    @Says("3: ITEM i becomes v, its lowest bits, as many as the LANE has: what it is then.")
    static void itemsWrapByTheirLane(Due due) {
        PricedLooks x = new PricedLooks();
        x.sheet(0, 0, 1);
        x.sheet(1, 1, 1);
        x.sheet(2, 2, 1);
        int[] values = {0, 127, 128, 255, 256, -1, -128, -129, 32767, 32768, 65535, 65536, -32768, -32769, GREATEST, LEAST};
        int[] bytes = {0, 127, -128, -1, 0, -1, -128, 127, -1, 0, -1, 0, 0, -1, -1, 0};
        int[] shorts = {0, 127, 128, 255, 256, -1, -128, -129, 32767, -32768, -1, 0, -32768, 32767, -1, 0};
        for (int k = 0; k < values.length; k++) {
            due.is("a byte of " + values[k], bytes[k], x.set(0, 0, values[k]));
            due.is("a short of " + values[k], shorts[k], x.set(1, 0, values[k]));
            due.is("an int of " + values[k], values[k], x.set(2, 0, values[k]));
        }
    }

    @Says("3: what it is then.")
    static void whatIsKeptIsWhatWasAnswered(Due due) {
        int wrapped = 256 * 3 + 2;
        due.is("a byte that wraps to a way", 2, way(withItems(0, wrapped), 0, 0));
        due.is("a short that does not", -1, way(withItems(1, wrapped), 0, 0));
        due.is("a short that wraps to a way", 5, way(withItems(1, 65536 + 5), 0, 0));
        due.is("an int that does not", -1, way(withItems(2, 65536 + 5), 0, 0));
        PricedLooks x = withItems(2, 1, 2, 3);
        x.set(0, 1, 7);
        areItems(due, "one item becomes another, its neighbours stay", x, 0, 1, 7, 3);
    }

    @Says("3: BAD: SHEET")
    static void anItemOfNoSheet(Due due) {
        PricedLooks x = new PricedLooks();
        x.sheet(7, 0, 1);
        for (int s : NO_SHEETS) {
            due.is("set(" + s + ", 0, 1)", Due.BAD, x.set(s, 0, 1));
        }
        due.is("set(7, 0, 1)", 1, x.set(7, 0, 1));
    }

    @Says({"3: NULL", "Terms: -1000010 less 1 NULL (a SHEET that is missing)"})
    static void anItemOfAMissingSheet(Due due) {
        PricedLooks x = new PricedLooks();
        due.is("set(0, 0, 1)", -1000011, x.set(0, 0, 1));
        due.is("status", 1, x.status());
        due.is("ahead of PLACE", -1000011, x.set(0, -1, 1));
        x.sheet(0, 0, 1);
        due.is("not of one that is there", 1, x.set(0, 0, 1));
        x.drop(0);
        due.is("of one that was dropped", -1000011, x.set(0, 0, 1));
    }

    @Says({"3: PLACE.", "Terms: 2 PLACE (no such place of a SHEET)"})
    static void anItemBeyondTheSheet(Due due) {
        PricedLooks x = withItems(2, 1, 2, 3);
        for (int i : new int[] {-1, 3, 4, 39, 40, LEAST, GREATEST}) {
            due.is("set(0, " + i + ", 7)", -1000012, x.set(0, i, 7));
            due.is("status", 2, x.status());
        }
        areItems(due, "all stay", x, 0, 1, 2, 3);
        due.is("the first", 7, x.set(0, 0, 7));
        due.is("the last", 7, x.set(0, 2, 7));
        x.sheet(1, 0, 0);
        due.is("the first of none", -1000012, x.set(1, 0, 7));
    }

    @Says("4: n ITEMS of a from i on come to b from j on, as they were ahead: n.")
    static void aCopyOverItself(Due due) {
        PricedLooks x = withItems(2, 1, 2, 3, 4, 5);
        due.is("to behind", 4, x.copy(0, 0, 0, 1, 4));
        areItems(due, "to behind", x, 0, 1, 1, 2, 3, 4);
        x = withItems(2, 1, 2, 3, 4, 5);
        due.is("to ahead", 4, x.copy(0, 1, 0, 0, 4));
        areItems(due, "to ahead", x, 0, 2, 3, 4, 5, 5);
        x = withItems(2, 1, 2, 3, 4, 5);
        due.is("to where they are", 5, x.copy(0, 0, 0, 0, 5));
        areItems(due, "to where they are", x, 0, 1, 2, 3, 4, 5);
    }

    @Says("4: n ITEMS of a from i on come to b from j on")
    static void aCopyOfAllAndOfNone(Due due) {
        PricedLooks x = withItems(1, 1, 2, 3);
        x.sheet(1, 1, 3);
        due.is("none", 0, x.copy(0, 0, 1, 0, 0));
        areItems(due, "none", x, 1, 0, 0, 0);
        due.is("none, from the ends on", 0, x.copy(0, 3, 1, 3, 0));
        due.is("all", 3, x.copy(0, 0, 1, 0, 3));
        areItems(due, "all", x, 1, 1, 2, 3);
        areItems(due, "the one they came from", x, 0, 1, 2, 3);
        x.sheet(2, 2, 40);
        x.sheet(3, 2, 40);
        x.set(2, 0, 5);
        x.set(2, 39, 6);
        due.is("forty", 40, x.copy(2, 0, 3, 0, 40));
        due.is("the first of forty", 5, way(x, 3, 0));
        due.is("the last of forty", 6, way(x, 3, 39));
        x.sheet(4, 0, 0);
        due.is("none of an empty one", 0, x.copy(4, 0, 4, 0, 0));
    }

    @Says("4: BAD: SHEETS")
    static void aCopyOfNoSheet(Due due) {
        PricedLooks x = new PricedLooks();
        x.sheet(0, 0, 1);
        for (int s : NO_SHEETS) {
            due.is("from " + s, Due.BAD, x.copy(s, 0, 0, 0, 1));
            due.is("to " + s, Due.BAD, x.copy(0, 0, s, 0, 1));
            due.is("from a missing one to " + s + ", BAD ahead of NULL", Due.BAD, x.copy(5, 0, s, 0, 1));
            due.is("from " + s + " to a missing one, BAD ahead of NULL", Due.BAD, x.copy(s, 0, 5, 0, 1));
        }
    }

    @Says("4: NULL")
    static void aCopyOfAMissingSheet(Due due) {
        PricedLooks x = new PricedLooks();
        x.sheet(0, 1, 1);
        due.is("from it", Due.NULL, x.copy(5, 0, 0, 0, 1));
        due.is("status", 1, x.status());
        due.is("to it", Due.NULL, x.copy(0, 0, 5, 0, 1));
        due.is("from it to itself", Due.NULL, x.copy(5, 0, 5, 0, 0));
        due.is("ahead of PLACE", Due.NULL, x.copy(5, -1, 0, 9, 99));
        due.is("none is made by it", 1, x.count(0));
        x.drop(0);
        due.is("one that was dropped", Due.NULL, x.copy(0, 0, 0, 0, 0));
    }

    @Says({"4: STORE", "Terms: 5 STORE (SHEETS of two LANES)", "Terms: then FINDINGS, of several the first in time"})
    static void aCopyBetweenLanes(Due due) {
        PricedLooks x = withItems(2, 1, 2, 3);
        x.sheet(1, 0, 3);
        x.sheet(2, 1, 3);
        x.sheet(3, 2, 3);
        for (int a = 0; a < 4; a++) {
            for (int b = 0; b < 4; b++) {
                boolean alike = a == b || a + b == 3 && a != 1 && b != 1;
                due.is("copy from " + a + " to " + b, alike ? 3 : -1000015, x.copy(a, 0, b, 0, 3));
                due.is("status", alike ? 0 : 5, x.status());
            }
        }
        areItems(due, "no item of another lane", x, 1, 0, 0, 0);
        due.is("also of none", Due.STORE, x.copy(0, 0, 1, 0, 0));
        due.is("ahead of PLACE", Due.STORE, x.copy(0, -1, 1, 9, 99));
        due.is("ahead of PLACE, n below 0", Due.STORE, x.copy(0, 0, 1, 0, -1));
    }

    @Says("4: PLACE (i, j, n below 0")
    static void aCopyFromBelowNothing(Due due) {
        PricedLooks x = withItems(2, 1, 2, 3);
        x.sheet(1, 2, 3);
        for (int below : new int[] {-1, -2, LEAST}) {
            due.is("i " + below, Due.PLACE, x.copy(0, below, 1, 0, 1));
            due.is("j " + below, Due.PLACE, x.copy(0, 0, 1, below, 1));
            due.is("n " + below, Due.PLACE, x.copy(0, 1, 1, 1, below));
            due.is("i " + below + ", none", Due.PLACE, x.copy(0, below, 1, 0, 0));
            due.is("j " + below + ", none", Due.PLACE, x.copy(0, 0, 1, below, 0));
        }
        due.is("i + n is within again", Due.PLACE, x.copy(0, -1, 1, 0, 2));
        due.is("status", 2, x.status());
        areItems(due, "nothing came", x, 1, 0, 0, 0);
    }

    @Says("4: or beyond an end).")
    static void aCopyBeyondAnEnd(Due due) {
        PricedLooks x = withItems(2, 1, 2, 3);
        x.sheet(1, 2, 2);
        due.is("one more than b has", Due.PLACE, x.copy(0, 0, 1, 0, 3));
        due.is("one more than a has", Due.PLACE, x.copy(1, 0, 0, 0, 3));
        due.is("behind the last of a", Due.PLACE, x.copy(0, 3, 1, 0, 1));
        due.is("behind the last of b", Due.PLACE, x.copy(0, 0, 1, 2, 1));
        due.is("none, beyond the end of a", Due.PLACE, x.copy(0, 4, 1, 0, 0));
        due.is("none, beyond the end of b", Due.PLACE, x.copy(0, 0, 1, 3, 0));
        due.is("i and n wrap below 0", Due.PLACE, x.copy(0, GREATEST, 1, 0, 1));
        due.is("j and n wrap below 0", Due.PLACE, x.copy(0, 0, 1, GREATEST, 1));
        due.is("a great n wraps below 0", Due.PLACE, x.copy(0, 3, 1, 2, GREATEST));
        due.is("the greatest n", Due.PLACE, x.copy(0, 0, 1, 0, GREATEST));
        due.is("all the greatest", Due.PLACE, x.copy(0, GREATEST, 1, GREATEST, GREATEST));
        areItems(due, "nothing came", x, 1, 0, 0);
        due.is("up to both ends", 2, x.copy(0, 1, 1, 0, 2));
        areItems(due, "up to both ends", x, 1, 2, 3);
    }

    @Says("5: A SHEET is missing from now on: how many ITEMS it had.")
    static void aDroppedSheet(Due due) {
        PricedLooks x = withItems(2, 1, 2, 3);
        x.sheet(1, 0, 40);
        x.sheet(2, 1, 0);
        due.is("one of forty", 40, x.drop(1));
        due.is("one of none", 0, x.drop(2));
        due.is("the other one is there", 1, x.count(0));
        areItems(due, "the other one", x, 0, 1, 2, 3);
        due.is("one of three", 3, x.drop(0));
        due.is("set", Due.NULL, x.set(0, 0, 1));
        due.is("walk", Due.NULL, x.walk(0, 0, 0, 1));
        due.is("a new one", 3, x.sheet(0, 2, 3));
        areItems(due, "begins with 0", x, 0, 0, 0, 0);
    }

    @Says("5: BAD")
    static void noSheetIsDropped(Due due) {
        PricedLooks x = new PricedLooks();
        x.sheet(0, 0, 1);
        x.sheet(7, 0, 1);
        for (int s : NO_SHEETS) {
            due.is("drop(" + s + ")", Due.BAD, x.drop(s));
        }
        due.is("all are there", 2, x.count(0));
    }

    @Says("5: NULL.")
    static void aMissingSheetIsDropped(Due due) {
        PricedLooks x = new PricedLooks();
        due.is("drop(7)", Due.NULL, x.drop(7));
        due.is("status", 1, x.status());
        x.sheet(7, 2, 4);
        due.is("one that is there", 4, x.drop(7));
        due.is("status", 0, x.status());
        due.is("twice", Due.NULL, x.drop(7));
    }
}
