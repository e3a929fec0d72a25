/** Promises 6 to 8 and 28: the tape, texts of cities, their faults. */
public final class TextsTest {
    private static final Due due = new Due("TextsTest");
    private static final String ROWS8 = "row o;row o;row o;row o;row o;row o;row o;row o;";

    public static void main(String[] args) {
        tape();
        texts();
        faultsOfRows();
        faultsOfPrices();
        faultsOfPeople();
        faultsOfOrder();
        replacing();
        counts();
        due.end();
    }

    private static void tape() {
        PricedLooks x = new PricedLooks();
        due.is("feed(0, 0)", Due.BAD, x.feed(0, 0));
        due.is("feed(0, 9)", Due.BAD, x.feed(0, 9));
        due.is("feed(0, -1)", Due.BAD, x.feed(0, -1));
        due.is("feed(.., 1)", 1, x.feed(0x726f77L, 1));
        due.is("feed(.., 8)", 9, x.feed(-1L, 8));
        for (int size = 17; size <= 393; size += 8) {
            due.is("feed to " + size, size, x.feed(0x2020202020202020L, 8));
        }
        due.is("FULL", Due.FULL, x.feed(0, 8));
        due.is("BAD ahead of FULL", Due.BAD, x.feed(0, 9));
        due.is("none came", 393, x.count(6));
        due.is("up to the end", 400, x.feed(0, 7));
        due.is("FULL", Due.FULL, x.feed(0, 1));
        due.is("the first byte is the lowest", -1000100, x.city());
        due.is("the tape is empty", 0, x.count(6));
        due.is("lowest bytes, the highest of them first", 8, x.feed(Due.word("row o; ;"), 8));
        due.is("the place", -1000107, x.city());
        x.feed(Due.word("zzzzzrow"), 3);
        x.feed(Due.word("zz oo"), 3);
        x.feed(Due.word("zzz;"), 1);
        due.is("the lowest bytes alone", 0, x.city());
        due.is("wide", 2, x.count(1));
    }

    private static void texts() {
        due.reads("row o;", 0);
        due.reads("  row\no\n;\n\n", 0);
        due.reads("row o;price0 1;person0 0 0 0child;", 1);
        due.reads("row o;price 00 099free;person 000 00 0 0guided;", 1);
        due.reads("row abcdefowmo;", 0);
        due.reads(ROWS8, 0);
        due.reads("row o;price 5 99;price 5 99;price 5 99;price 5 99;price 5 99;price 5 0;", 0);
        due.reads("row oo;person 0 0 0 0;person 0 0 0 0;person 1 0 0 0;person 0 0 1 0;person 0 0 0 0;person 0 0 0 0;", 6);
        StringBuilder full = new StringBuilder(ROWS8);
        while (full.length() < 400) {
            full.append(' ');
        }
        due.reads(full.toString(), 0);
    }

    private static void faultsOfRows() {
        due.faulty("^", 1);
        due.faulty("  \n ^", 1);
        due.faulty("row^", 1);
        due.faulty("row ^", 1);
        due.faulty("row oo^", 1);
        due.faulty("row oo \n^", 1);
        due.faulty("^rows o;", 1);
        due.faulty("^ro w;", 1);
        due.faulty("^rowo;", 1);
        due.faulty("^Row o;", 1);
        due.faulty("^;", 1);
        due.faulty("^7;", 1);
        due.faulty("row ^;", 1);
        due.faulty("row ^5;", 1);
        due.faulty("row ^og;", 1);
        due.faulty("row ^ozo;", 1);
        due.faulty("^zrow o;", 1);
        due.faulty("row ^ooooooooooo;", 1);
        due.faulty("row o^O;", 1);
        due.faulty("row o ^o;", 1);
        due.faulty("row o^1;", 1);
        due.faulty("row o;row ^oo;", 1);
        due.faulty("row oo;row ^o;", 1);
        due.faulty("row oo;row ^oz;", 1);
        due.faulty("row oo;row ^row;", 1);
        due.faulty("row oo;^oo;", 1);
        due.faulty("row oo;^\t", 1);
        due.faulty("row oo;^" + (char) 255, 1);
        due.faulty("row oo^,", 1);
        due.faulty(ROWS8 + "^row o;", 3);
        due.faulty(ROWS8 + "^row", 3);
        due.faulty(ROWS8 + "^row zz", 3);
    }

    private static void faultsOfPrices() {
        due.faulty("row o;price^", 1);
        due.faulty("row o;price ^;", 1);
        due.faulty("row o;price ^a 1;", 1);
        due.faulty("row o;price ^6 1;", 2);
        due.faulty("row o;price ^999 1;", 2);
        due.faulty("row o;price ^1234 1;", 1);
        due.faulty("row o;price ^0000 1;", 1);
        due.faulty("row o;price 0^;", 1);
        due.faulty("row o;price 0^", 1);
        due.faulty("row o;price 0 ^100;", 2);
        due.faulty("row o;price 0 ^1000;", 1);
        due.faulty("row o;price 0 ^x;", 1);
        due.faulty("row o;price 0 ^-1;", 1);
        due.faulty("row o;price 0 1 ^2;", 1);
        due.faulty("row o;price 0 1 ^cheap;", 1);
        due.faulty("row o;price 0 1 ^child;", 1);
        due.faulty("row o;price 0 1 ^frees;", 1);
        due.faulty("row o;price 0 1 free ^free;", 1);
        due.faulty("row o;price 0 1 free^", 1);
        due.faulty("row o;price ^6 100;", 2);
        due.faulty("row o;price 0 1;price 0 1;price 0 1;price 0 1;price 0 1;price 0 1;^price 9 9;", 3);
        due.faulty("row o;price 0 1;price 0 1;price 0 1;price 0 1;price 0 1;price 0 1;^row o;", 1);
        due.faulty(ROWS8 + "price 0 1;^row o;", 1);
    }

    private static void faultsOfPeople() {
        due.faulty("row ow;person^", 1);
        due.faulty("row ow;person ^;", 1);
        due.faulty("row ow;person ^2 0 0 0;", 2);
        due.faulty("row ow;person ^1234 0 0 0;", 1);
        due.faulty("row ow;person 0 ^1 0 0;", 2);
        due.faulty("row ow;person 0 ^999 0 0;", 2);
        due.faulty("row ow;person 0 ^1000 0 0;", 1);
        due.faulty("row ow;person 1 ^0 0 0;", 2);
        due.faulty("row ow;person 1 ^child", 1);
        due.faulty("row ow;person 1^", 1);
        due.faulty("row ow;person 0 0 ^2 0;", 2);
        due.faulty("row ow;person 0 0 1 ^0;", 2);
        due.faulty("row ow;person 0 0 0 ^1;", 2);
        due.faulty("row oa;person 0 0 1 ^0;", 2);
        due.faulty("row om;person 0 0 1 ^0;", 2);
        due.faulty("row ow;person 0 0 0 ^;", 1);
        due.faulty("row ow;person 0 0 0 0^", 1);
        due.faulty("row ow;person 0 0 0 0 ^0;", 1);
        due.faulty("row ow;person 0 0 0 0 ^old;", 1);
        due.faulty("row ow;person 0 0 0 0 ^free;", 1);
        due.faulty("row ow;person 0 0 0 0 child ^guided;", 1);
        due.faulty("row ow;person 0 0 0 0 guided ^guided;", 1);
        due.faulty("row ow;person 0 0 0 0 guided^", 1);
        String six = "person 0 0 0 0;person 0 0 0 0;person 0 0 0 0;person 0 0 0 0;person 0 0 0 0;person 0 0 0 0;";
        due.faulty("row o;" + six + "^person 0 0 0 0;", 3);
        due.faulty("row o;" + six + "^price 0 0;", 1);
    }

    private static void faultsOfOrder() {
        due.faulty("^price 0 1;row o;", 1);
        due.faulty("^person 0 0 0 0;", 1);
        due.faulty("row o;person 0 0 0 0;^price 0 1;", 1);
        due.faulty("row o;person 0 0 0 0;^row o;", 1);
        due.faulty("row o;price 0 1;^row o;", 1);
        due.faulty("row o;^;", 1);
        due.faulty("row o;^free;", 1);
        due.faulty("row o;price ^9 !", 2);
    }

    private static void replacing() {
        PricedLooks x = Due.of("row oa;row oo;price 0 9 free;person 0 0 1 1 child;person 0 1 0 0 guided;");
        x.step(0, 2);
        x.step(1, 1);
        due.is("a child paid nothing to a free price, the other did", 9, x.got(0));
        due.is("all stays by a fault", -1000104, Due.read(x, "row x;"));
        due.is("people", 2, x.count(3));
        due.is("gone", 1, x.person(0, 4));
        due.is("a fault", 1, x.fault());
        due.is("another fault", -1000112, Due.read(x, "row o;price 6 0;"));
        due.is("the latest", 2, x.fault());
        due.is("another city", 1, Due.read(x, "row oa;price 0 9;price 0 7;person 0 0 0 0 child;"));
        due.is("the latest stays", 2, x.fault());
        due.is("told last holds", 7, x.look(0, 2, 1));
        due.is("nobody has gone", 0, x.person(0, 4));
        due.is("nobody has paid", 0, x.person(0, 3));
        due.is("nobody has looked", 0, x.person(0, 20));
        due.is("not free now", 7, x.step(0, 2));
        due.is("got", 7, x.got(0));
        due.is("the same city again", 1, Due.read(x, "row oa;price 0 9 free;price 0 7;person 0 0 0 0 child;"));
        due.is("nobody has paid", 0, x.got(0));
        due.is("told last, without free", 7, x.step(0, 2));
        due.is("no prices: 0", 1, Due.read(x, "row oa;person 0 0 0 0;"));
        due.is("none told", 0, x.look(0, 2, 1));
        due.is("he looked all the same", 0, x.step(0, 2));
        due.is("blinks", 1, x.person(0, 20));
    }

    private static void counts() {
        PricedLooks x = Due.of("row ombw;row aawm;person 0 0 0 0;");
        x.sheet(3, 1, 1);
        x.feed(0, 5);
        int[] wants = {1, 4, 2, 1, 3, 2, 5};
        for (int what = 0; what < wants.length; what++) {
            due.is("count(" + what + ")", wants[what], x.count(what));
        }
        due.is("count(7)", Due.BAD, x.count(7));
        due.is("count(-1)", Due.BAD, x.count(-1));
        x.city();
        due.is("a smaller city", 0, Due.read(x, "row o;"));
        due.is("no fronts of the one before", 0, x.count(4));
        due.is("no mirrors of the one before", 0, x.count(5));
        due.is("no people of the one before", Due.BAD, x.person(0, 0));
    }
}
