/** Promises 24 to 27: kinds of cells, asks, the trace. */
public final class AskedTest {
    private static final Due due = new Due("AskedTest");
    private static final String TOWN = "row aom;row owb;row ooo;price 0 50;price 1 49;";

    public static void main(String[] args) {
        kinds();
        taken();
        asks();
        trace();
        due.end();
    }

    private static void kinds() {
        PricedLooks x = Due.of(TOWN);
        due.is("a dear one", 5, x.kind(0));
        due.is("an open one", 1, x.kind(1));
        due.is("a mirror", 4, x.kind(2));
        due.is("a wall", 2, x.kind(11));
        due.is("a front", 3, x.kind(12));
        int[] none = {-1, 3, 9, 13, 30, 80, Integer.MIN_VALUE, Integer.MAX_VALUE};
        for (int cell : none) {
            due.is("kind(" + cell + ")", Due.BAD, x.kind(cell));
            due.is("as(" + cell + ", 0)", Due.BAD, x.as(cell, 0));
            due.is("ask(" + cell + ", 0)", Due.BAD, x.ask(cell, 0));
        }
        x.price(1, 50);
        due.is("a front that became dear", 5, x.kind(12));
        x.price(0, 0);
        due.is("a dear one that is no more", 3, x.kind(0));
        due.is("no city", Due.BAD, new PricedLooks().kind(0));
    }

    private static void taken() {
        PricedLooks x = Due.of(TOWN);
        int[] cells = {0, 1, 2, 11, 12};
        String[] are = {"023 5", "01", "02 4", "02", "023"};
        for (int i = 0; i < cells.length; i++) {
            for (int kind = 0; kind < 6; kind++) {
                boolean is = are[i].indexOf((char) ('0' + kind)) >= 0;
                due.is("as(" + cells[i] + ", " + kind + ")", is ? cells[i] : Due.KIND, x.as(cells[i], kind));
                due.is("status then", is ? 0 : 3, x.status());
            }
        }
        due.is("as(0, 6)", Due.BAD, x.as(0, 6));
        due.is("as(0, -1)", Due.BAD, x.as(0, -1));
    }

    private static void answers(PricedLooks x, int cell, int what, int want, int... bodies) {
        String call = "ask(" + cell + ", " + what + ")";
        due.is(call, want, x.ask(cell, what));
        for (int i = 0; i < 18; i++) {
            due.is("trace(" + i + ") of " + call, i < bodies.length ? bodies[i] : Due.NONE, x.trace(i));
        }
        due.is("trace(-1) of " + call, Due.NONE, x.trace(-1));
    }

    private static void asks() {
        PricedLooks x = Due.of(TOWN);
        answers(x, 0, 0, 7996, 13, 12, 11, 10, 23, 21, 20);
        answers(x, 0, 1, 4000, 23, 21, 20);
        answers(x, 1, 0, 0, 14, 10, 20);
        answers(x, 1, 1, 1, 20);
        answers(x, 21, 0, 3 - 21, 14, 10, 20);
        answers(x, 2, 0, -1, 11, 10);
        answers(x, 2, 1, 1, 22, 20, 11, 10);
        answers(x, 11, 0, -5, 11, 10);
        answers(x, 11, 1, 11, 20);
        answers(x, 12, 0, 4909, 12, 11, 10, 21, 20);
        answers(x, 12, 1, 4912, 21, 20);
        x.price(1, 99);
        answers(x, 12, 1, 12 + 9900 - 1000, 23, 21, 20);
        x = Due.of("row ooo;row omo;row ooo;");
        answers(x, 11, 0, -8, 11, 10);
        answers(x, 11, 1, 3, 22, 20, 11, 10);
    }

    private static void trace() {
        PricedLooks x = Due.of(TOWN);
        x.ask(11, 0);
        due.is("ask(11, 2)", Due.BAD, x.ask(11, 2));
        due.is("ask(11, -1)", Due.BAD, x.ask(11, -1));
        due.is("BAD leaves the trace", 11, x.trace(0));
        due.is("BAD leaves the trace", 10, x.trace(1));
        Due.read(x, "row o;");
        due.is("another city leaves the trace", 11, x.trace(0));
        due.is("trace of the greatest", Due.NONE, x.trace(Integer.MAX_VALUE));
        due.is("trace of the least", Due.NONE, x.trace(Integer.MIN_VALUE));
    }
}
