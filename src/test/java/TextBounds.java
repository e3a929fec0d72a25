/** Boundary cases of the tape, of texts and of their faults: promises 6 to 8. */
final class TextBounds {
    private static final String ROWS8 = "row o;".repeat(8);
    private static final String PRICES6 = "price 0 1;".repeat(6);
    private static final String PEOPLE6 = "person 0 0 0 0;".repeat(6);

    private TextBounds() {
    }

    private static PricedLooks withBytes(int many) {
        PricedLooks x = new PricedLooks();
        for (int i = 0; i < many; i++) {
            x.feed(' ', 1);
        }
        return x;
    }

    @Says("6: BAD: n")
    static void fewerBytesThanOneOrMoreThanEight(Due due) {
        PricedLooks x = new PricedLooks();
        for (int n : new int[] {0, -1, 9, 10, 64, Integer.MIN_VALUE, Integer.MAX_VALUE}) {
            due.is("feed(-1, " + n + ")", Due.BAD, x.feed(-1L, n));
        }
        due.is("none came", 0, x.count(6));
        int size = 0;
        for (int n = 1; n <= 8; n++) {
            size += n;
            due.is("feed(-1, " + n + ")", size, x.feed(-1L, n));
        }
    }

    @Says("6: The lowest n bytes of w (1 to 8), the highest of them first, come behind the tape: how many it has.")
    static void bytesComeTheHighestFirst(Due due) {
        PricedLooks x = new PricedLooks();
        due.is("all eight", 8, x.feed(0x726f77206f6f6f3bL, 8));
        due.is("row ooo;", 0, x.city());
        due.is("wide", 3, x.count(1));
        x.feed(0xfffffff0726f7720L, 4);
        x.feed(0xffffffffffff6f6fL, 2);
        due.is("what is above is left away, also of a w below 0", 7, x.feed(Long.MIN_VALUE + ';', 1));
        due.is("row oo;", 0, x.city());
        due.is("wide", 2, x.count(1));
        x.feed(0xff00000000000000L, 8);
        due.is("a byte 255 comes first, then 0s", -1000100, x.city());
        x.feed(0x2020202020202000L, 8);
        due.is("a byte 0 comes last", -1000107, x.city());
    }

    @Says({"6: FULL: none comes.", "Terms: THE TAPE has at most 400 bytes"})
    static void aTapeThatIsFull(Due due) {
        PricedLooks x = withBytes(392);
        due.is("400", 400, x.feed(0x2020202020202020L, 8));
        for (int n = 1; n <= 8; n++) {
            due.is("n " + n + " of none left", Due.FULL, x.feed(0, n));
        }
        due.is("how many it has", 400, x.count(6));
        due.is("what was fed is as it was: blanks alone", -1000500, x.city());
        x = withBytes(397);
        due.is("4 of 3 left", Due.FULL, x.feed(0, 4));
        due.is("none came", 397, x.count(6));
        due.is("3 of 3 left", 400, x.feed(0, 3));
        due.is("the first that came", -1000497, x.city());
    }

    @Says("Terms: the first of these that fits, but as told: BAD (a number is not as told; there is no such thing), STATE")
    static void badIsAheadOfFull(Due due) {
        PricedLooks x = withBytes(400);
        due.is("n 0", Due.BAD, x.feed(0, 0));
        due.is("n 9", Due.BAD, x.feed(0, 9));
        due.is("n -1", Due.BAD, x.feed(0, -1));
        due.is("n 1", Due.FULL, x.feed(0, 1));
    }

    @Says({"7: The tape, empty then, is read", "Terms: FULL (as told)"})
    static void theTapeIsEmptyBehindAText(Due due) {
        PricedLooks x = withBytes(400);
        due.is("a fault", -1000500, x.city());
        due.is("empty behind a fault", 0, x.count(6));
        due.is("empty: nothing to be read", -1000100, x.city());
        due.is("there is room again", 8, x.feed(0x726f77206f6f6f3bL, 8));
        due.is("a city", 0, x.city());
        due.is("empty behind a city", 0, x.count(6));
        due.is("empty: nothing to be read", -1000100, x.city());
        due.is("the city is there", 3, x.count(1));
    }

    @Says("7: how many PEOPLE there are.")
    static void aCityOfNobodyAndOfSix(Due due) {
        due.reads("row o;", 0);
        due.reads("row o;person 0 0 0 0;", 1);
        due.reads("row o;" + PEOPLE6, 6);
    }

    @Says("7: -1000100 less the place of a FAULT: all stays.")
    static void allStaysByAFault(Due due) {
        PricedLooks x = Due.of("row ooa;row owm;price 0 9 free;person 0 0 0 1;person 1 0 0 0 child;");
        x.step(0, 2);
        x.step(1, 2);
        x.sheet(0, 0, 3);
        x.ask(2, 1);
        String[] texts = {"", "row", "row o", "row z;", ROWS8 + "row o;", "row o;price 6 1;", "row o;price 0 50;person 0 0 1 0;",
            "row oooo;row oooo;row oooo;price 0 50;person 3 2 3 2 guided;person 0 0 0 0;person 0 0 0 0;;"};
        int[] places = {0, 3, 5, 4, 48, 12, 28, 90};
        for (int i = 0; i < texts.length; i++) {
            due.is("city of " + texts[i], -1000100 - places[i], Due.read(x, texts[i]));
            int[] counts = {1, 3, 2, 2, 1, 1, 0};
            for (int what = 0; what < counts.length; what++) {
                due.is("count(" + what + ")", counts[what], x.count(what));
            }
            due.is("got", 9, x.got(0));
            due.is("the price", 9, x.look(0, 2, 1));
            due.is("where he is", 1, x.person(0, 0));
            due.is("his home", 10, x.person(0, 1));
            due.is("how she is", 1, x.person(1, 2));
            due.is("her blinks", 1, x.person(1, 20));
            due.is("a wall", 2, x.kind(11));
            due.is("the trace", 21, x.trace(0));
        }
    }

    @Says({"8: 0 before one.", "8: The number of the latest FAULT"})
    static void theLatestFault(Due due) {
        PricedLooks x = new PricedLooks();
        due.is("before one", 0, x.fault());
        Due.read(x, "row o;");
        due.is("behind a city alone", 0, x.fault());
        x.feed(0, 9);
        x.sheet(0, 0, -1);
        due.is("a refused call is none", 0, x.fault());
        Due.read(x, "row o;price 0 100;");
        due.is("2", 2, x.fault());
        Due.read(x, ROWS8 + "row o;");
        due.is("3", 3, x.fault());
        Due.read(x, "row");
        due.is("1", 1, x.fault());
        Due.read(x, "row o;price 9 0;");
        due.is("2 again", 2, x.fault());
        Due.read(x, "row o;");
        due.is("the latest stays behind a city", 2, x.fault());
    }

    @Says({"Terms: TEXTS:", "Terms: TOKENS: NAMES (letters a to z)"})
    static void lettersAtTheirEdges(Due due) {
        due.reads("row a;", 0);
        due.faulty("row ^z;", 1);
        due.faulty("row ^oz;", 1);
        due.faulty("row o^`;", 1);
        due.faulty("row o^{;", 1);
        due.faulty("row o^A;", 1);
        due.faulty("row o^Z;", 1);
        due.faulty("row o^O;", 1);
        due.faulty("^ROW o;", 1);
        due.faulty("row o;person 0 0 0 0 ^zebra;", 1);
    }

    @Says("Terms: NUMBERS (figures, 3 at most)")
    static void figuresAtTheirEdges(Due due) {
        due.reads("row oooooooooo;price 0 0;person 9 0 9 0;", 1);
        due.reads("row o;price 000 099;person 000 00 0 000;", 1);
        due.faulty("row o;price ^0000 1;", 1);
        due.faulty("row o;price 0 ^0001;", 1);
        due.faulty("row o;price 0 ^1000;", 1);
        due.faulty("row o;person ^0000 0 0 0;", 1);
        due.faulty("row o;person 0 0 0 ^0000;", 1);
        due.faulty("row o;price 0 ^99999999999999999999;", 1);
        due.faulty("row o;price 0 ^4294967296;", 1);
        due.faulty("row o;price 0 1^/;", 1);
        due.faulty("row o;price 0 1^:;", 1);
        due.faulty("row o;price 0 ^-1;", 1);
        due.faulty("row o;price 0 ^+1;", 1);
        due.faulty("row o;price 0 1^.0;", 1);
    }

    @Says("Terms: SIGNS ; bytes 32 and 10 between.")
    static void whatMayStandBetween(Due due) {
        due.reads("\n\n  row  \n o \n;  \n", 0);
        due.reads("row o;price0 1free;person0 0 0 0child;", 1);
        for (int between : new int[] {0, 1, 9, 11, 12, 13, 31, 33, 127, 128, 160, 255}) {
            due.faulty("row o;^" + (char) between, 1);
            due.faulty("row o^" + (char) between + ";", 1);
        }
        due.faulty("row o^:", 1);
        due.faulty("row o^<", 1);
        due.faulty("row o^,", 1);
        due.faulty("^r ow o;", 1);
        due.faulty("row o ^o;", 1);
        due.faulty("row o;price 0 1 ^2;", 1);
        due.faulty("^rowo;", 1);
    }

    @Says("Terms: city: row { row } { price } { person }.")
    static void partsThatLackOrStandElsewhere(Due due) {
        due.reads("row o;", 0);
        due.reads("row o;price 0 1;", 0);
        due.reads("row o;person 0 0 0 0;", 1);
        due.faulty("^", 1);
        due.faulty("^price 0 1;", 1);
        due.faulty("^person 0 0 0 0;", 1);
        due.faulty("row o;price 0 1;^row o;", 1);
        due.faulty("row o;person 0 0 0 0;^row o;", 1);
        due.faulty("row o;person 0 0 0 0;^price 0 1;", 1);
        due.faulty("row o;^o;", 1);
        due.faulty("row o;^free;", 1);
        due.faulty("row o;^0", 1);
        due.faulty("row o;^;", 1);
        due.faulty("row o;^rows", 1);
        due.faulty("row o;^prices", 1);
        due.faulty("row o;^persons", 1);
        due.faulty("^tow o;", 1);
        due.faulty("^roo o;", 1);
        due.faulty("row o;^brice 0 1;", 1);
        due.faulty("row o;^qerson 0 0 0 0;", 1);
        due.faulty("row o;price 0 1 ^tree;", 1);
        due.faulty("row o;person 0 0 0 0 ^dhild;", 1);
        due.faulty("row o;person 0 0 0 0 ^guidec;", 1);
    }

    @Says("Terms: row: 'row' CELLS ';' (a NAME of 1 to 10 letters")
    static void rowsOfOneToTenCells(Due due) {
        due.reads("row o;", 0);
        due.reads("row oooooooooo;", 0);
        due.faulty("row ^ooooooooooo;", 1);
        due.faulty("row ^;", 1);
        due.faulty("row^;", 1);
        due.faulty("row ^7;", 1);
        due.faulty("row o^", 1);
        due.faulty("row o ^row o;", 1);
        due.faulty("row ^" + "o".repeat(396), 1);
    }

    @Says("Terms: each row of as many as the first")
    static void rowsOfMoreOrFewerThanTheFirst(Due due) {
        due.reads("row oo;row ww;", 0);
        due.faulty("row oo;row ^o;", 1);
        due.faulty("row oo;row ^ooo;", 1);
        due.faulty("row oo;row oo;row ^o;", 1);
        due.faulty("row o;row ^oooooooooo;", 1);
        due.faulty("row oooooooooo;row ^ooooooooooo;", 1);
        due.faulty("row oooooooooo;row ^ooooooooo;", 1);
    }

    @Says("Terms: o open, w a wall, m a mirror, a .. f a front of OWNER 0 .. 5")
    static void theLettersOfCells(Due due) {
        PricedLooks x = Due.of("row owmabcdef;price 0 50;price 5 49;");
        int[] kinds = {1, 2, 4, 5, 3, 3, 3, 3, 3};
        for (int cell = 0; cell < kinds.length; cell++) {
            due.is("kind(" + cell + ")", kinds[cell], x.kind(cell));
        }
        due.is("f is of 5", 8 + 4900, x.ask(8, 1));
        for (char c = 'g'; c <= 'z'; c++) {
            if (c != 'm' && c != 'o' && c != 'w') {
                due.faulty("row ^o" + c + ";", 1);
            }
        }
    }

    @Says("Terms: ROWS of cells 0 .. 7, 8 at most).")
    static void eightRowsAndNotNine(Due due) {
        due.reads(ROWS8, 0);
        PricedLooks x = Due.of("row oooooooooo;".repeat(8));
        due.is("high", 8, x.count(2));
        due.is("wide", 10, x.count(1));
        due.is("the last cell", 1, x.kind(79));
        due.faulty(ROWS8 + "^row o;", 3);
        due.faulty(ROWS8 + "^row", 3);
        due.faulty(ROWS8 + "^row zz", 3);
        due.faulty(ROWS8 + "^rows", 1);
    }

    @Says({"Terms: price: 'price' OWNER P [ 'free' ] ';' (0 to 5; 0 to 99", "Terms: 2 a NUMBER that is not as told"})
    static void pricesAtTheirEdges(Due due) {
        due.reads("row o;price 0 0;price 5 99;price 5 99 free;", 0);
        due.faulty("row o;price ^6 0;", 2);
        due.faulty("row o;price ^999 0;", 2);
        due.faulty("row o;price 5 ^100;", 2);
        due.faulty("row o;price 5 ^999;", 2);
        due.faulty("row o;price ^6 100;", 2);
        due.faulty("row o;price^;", 1);
        due.faulty("row o;price 5^;", 1);
        due.faulty("row o;price 5 ^free;", 1);
        due.faulty("row o;price 5 9 ^9;", 1);
        due.faulty("row o;price 5 9 free ^free;", 1);
        due.faulty("row o;price 5 9 ^child;", 1);
    }

    @Says("Terms: told last holds; none: 0;")
    static void aPriceThatIsToldTwiceOrNotAtAll(Due due) {
        PricedLooks x = Due.of("row aob;price 0 9;price 0 3;");
        due.is("told last", 3, x.look(1, 6, 1));
        due.is("none", 0, x.look(1, 2, 1));
        due.is("none", 0, x.price(5, 0));
        x = Due.of("row aob;price 0 9;price 1 4;price 0 99;price 1 0;price 0 98;price 0 2;");
        due.is("told last of many", 2, x.look(1, 6, 1));
        due.is("told last, 0", 0, x.look(1, 2, 1));
    }

    @Says("Terms: free: children pay nothing;")
    static void aPriceThatIsFree(Due due) {
        String people = "person 1 0 1 0 child;person 1 0 1 0;person 1 0 1 0 guided;";
        PricedLooks x = Due.of("row aob;price 0 9 free;price 1 5;" + people);
        due.is("a child, free", 0, x.step(0, 6));
        due.is("a child, not free", 5, x.step(0, 2));
        due.is("one as most", 9, x.step(1, 6));
        due.is("one who is guided", 9, x.step(2, 6));
        x = Due.of("row aob;price 0 9 free;price 0 9;price 1 5;price 1 5 free;" + people);
        due.is("free, told last without", 9, x.step(0, 6));
        due.is("free, told last with it", 0, x.step(0, 2));
    }

    @Says({"Terms: 6 at most). person:", "Terms: 3 more of a sort than there is room for (its word)."})
    static void sixPricesAndNotSeven(Due due) {
        due.reads("row o;" + PRICES6, 0);
        due.faulty("row o;" + PRICES6 + "^price 0 1;", 3);
        due.faulty("row o;" + PRICES6 + "^price", 3);
        due.faulty("row o;" + PRICES6 + "^price 9 999;", 3);
        due.reads("row o;" + PRICES6 + "person 0 0 0 0;", 1);
    }

    @Says("Terms: person: 'person' X Y X Y [ 'child' | 'guided' ] ';'")
    static void partsOfAPersonThatLack(Due due) {
        due.faulty("row o;person^", 1);
        due.faulty("row o;person ^;", 1);
        due.faulty("row o;person 0^;", 1);
        due.faulty("row o;person 0 0^;", 1);
        due.faulty("row o;person 0 0 0^;", 1);
        due.faulty("row o;person 0 0 0 0^", 1);
        due.faulty("row o;person 0 0 0 0 ^0;", 1);
        due.faulty("row o;person 0 0 ^child 0 0;", 1);
        due.faulty("row o;person 0 0 0 0 child ^guided;", 1);
        due.faulty("row o;person 0 0 0 0 child ^child;", 1);
        due.faulty("row o;person 0 0 0 0 ^children;", 1);
        due.faulty("row o;person 0 0 0 0 ^guide;", 1);
        due.faulty("row o;person 0 0 0 0 guided^", 1);
        PricedLooks x = Due.of("row o;person 0 0 0 0;person 0 0 0 0 child;person 0 0 0 0 guided;");
        for (int p = 0; p < 3; p++) {
            due.is("how " + p + " is", p, x.person(p, 2));
        }
    }

    @Says({"Terms: (open CELLS: where he is, where his home is;", "Terms: (Y of a CELL that is not open)"})
    static void peopleWhereNoCellIsOpen(Due due) {
        String rows = "row owo;row amo;";
        due.reads(rows + "person 0 0 2 1;", 1);
        due.faulty(rows + "person 1 ^0 0 0;", 2);
        due.faulty(rows + "person 0 ^1 0 0;", 2);
        due.faulty(rows + "person 1 ^1 0 0;", 2);
        due.faulty(rows + "person 0 0 1 ^0;", 2);
        due.faulty(rows + "person 0 0 0 ^1;", 2);
        due.faulty(rows + "person 0 0 1 ^1;", 2);
        due.faulty(rows + "person 2 ^2 0 0;", 2);
        due.faulty(rows + "person 0 0 2 ^2;", 2);
        due.faulty(rows + "person 0 ^999 0 0;", 2);
        due.faulty(rows + "person 1 ^;", 1);
    }

    @Says("Terms: 2 a NUMBER that is not as told")
    static void peopleBeyondTheRow(Due due) {
        String rows = "row oooooooooo;row oooooooooo;";
        due.reads(rows + "person 9 1 9 1;", 1);
        due.faulty(rows + "person ^10 0 0 0;", 2);
        due.faulty(rows + "person 0 0 ^10 0;", 2);
        due.faulty(rows + "person ^19 0 0 0;", 2);
        due.faulty(rows + "person ^999 0 0 0;", 2);
        due.faulty("row oo;row oo;person ^2 0 0 0;", 2);
        due.faulty("row oo;row oo;person ^2 9 0 0;", 2);
    }

    @Says({"Terms: PEOPLE 0 .. 5, 6 at most).", "Terms: 3 more of a sort than there is room for (its word)."})
    static void sixPeopleAndNotSeven(Due due) {
        due.reads("row o;" + PEOPLE6, 6);
        due.faulty("row o;" + PEOPLE6 + "^person 0 0 0 0;", 3);
        due.faulty("row o;" + PEOPLE6 + "^person", 3);
        due.faulty("row o;" + PEOPLE6 + "^person 9", 3);
        PricedLooks x = Due.of("row o;" + PEOPLE6);
        due.is("the sixth", 0, x.person(5, 0));
        due.is("there is no seventh", Due.BAD, x.person(6, 0));
    }

    @Says("Terms: A CITY that is read stands in place of the one before (none at first): nobody has paid.")
    static void aCityInPlaceOfAnother(Due due) {
        String text = "row aob;row ooo;price 0 9;price 1 60 free;person 1 0 0 1;person 1 0 1 0 child;";
        PricedLooks x = Due.of(text);
        x.step(0, 6);
        x.step(0, 4);
        x.step(1, 6);
        due.is("got", 18, x.got(0));
        due.is("the same once more", 2, Due.read(x, text));
        due.is("got", 0, x.got(0));
        due.is("witnesses", 3, x.witnesses(0));
        for (int p = 0; p < 2; p++) {
            int[] wants = {1, p == 0 ? 10 : 1, p, 0, 0};
            for (int what = 0; what < wants.length; what++) {
                due.is("person(" + p + ", " + what + ")", wants[what], x.person(p, what));
            }
            due.is("paid to 0", 0, x.person(p, 10));
            due.is("blinks at 0", 0, x.person(p, 20));
        }
        due.is("a smaller one", 0, Due.read(x, "row m;"));
        int[] counts = {0, 1, 1, 0, 0, 1, 0};
        for (int what = 0; what < counts.length; what++) {
            due.is("count(" + what + ")", counts[what], x.count(what));
        }
        due.is("its people are gone", Due.BAD, x.person(0, 0));
        due.is("its cells are gone", Due.BAD, x.kind(1));
        due.is("its prices are gone", 0, x.price(1, 0));
        due.is("a larger one, with a child", 1, Due.read(x, "row oob;price 1 5;person 0 0 1 0 child;"));
        due.is("no price is free any more", 5, x.step(0, 2));
    }

    @Says("Terms: FAULTS, the first TOKEN that has one (its first byte)")
    static void ofTwoFaultsTheFirst(Due due) {
        due.faulty("row ^z;price 9 999;", 1);
        due.faulty("row o;price ^9 999;", 2);
        due.faulty("row o;price ^9 !", 2);
        due.faulty("row o;price 5 ^100 cheap;", 2);
        due.faulty("row o;person ^1 1 1 1 old", 2);
        due.faulty("row o;person 0 ^1 1 1 old", 2);
        due.faulty("row o;row ^oo;row z;", 1);
        due.faulty(ROWS8 + "^row z;price 9 9;", 3);
        due.faulty("row   \n ^zzz;", 1);
    }

    @Says("Terms: of one TOKEN the least: 1 it cannot stand there, or is none")
    static void ofTwoFaultsOfOneTokenTheLeast(Due due) {
        due.faulty("row o;price ^6666 0;", 1);
        due.faulty("row o;person ^9999 0 0 0;", 1);
        due.faulty("row o;person 0 ^9999 0 0;", 1);
        due.faulty(ROWS8 + "price 0 0;^row o;", 1);
        due.faulty(ROWS8 + "person 0 0 0 0;^row o;", 1);
        due.faulty("row o;" + PRICES6 + "person 0 0 0 0;^price 0 0;", 1);
        due.faulty("row o;" + PEOPLE6 + "^price 0 0;", 1);
        due.faulty("row o;price 0 0 ^999;", 1);
    }

    @Says("Terms: or is a NAME of other letters or of another length where CELLS must be")
    static void namesWhereCellsMustBe(Due due) {
        due.faulty("row ^row;", 1);
        due.faulty("row ^price;", 1);
        due.faulty("row ^og;", 1);
        due.faulty("row ^go;", 1);
        due.faulty("row ^oooooooooog;", 1);
        due.faulty("row oo;row ^og;", 1);
        due.faulty("row oo;row ^ogo;", 1);
        due.reads("row wow;", 0);
    }

    @Says("Terms: (the end: how many bytes there are)")
    static void theEndAsAPlace(Due due) {
        due.faulty("^", 1);
        due.faulty(" ^", 1);
        due.faulty("row^", 1);
        due.faulty("row o^", 1);
        due.faulty("row o  \n^", 1);
        due.faulty("row o;price 0 1 free^", 1);
        due.faulty("row o;person 0 0 0 0 child ^", 1);
        due.faulty(" ".repeat(400) + "^", 1);
        due.faulty(" ".repeat(395) + "row o^", 1);
        due.reads(" ".repeat(394) + "row o;", 0);
        due.reads("row o;" + " ".repeat(394), 0);
    }
}
