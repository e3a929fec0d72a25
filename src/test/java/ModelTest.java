import java.util.Random;

/** Runs of calls by chance, but the same each time, of PricedLooks and of the model: each answer must be alike. */
public final class ModelTest {
    private static final Due due = new Due("ModelTest");
    private static final int[] ODD = {-1, 0, 1, 40, 41, 79, 80, 100, Integer.MAX_VALUE, Integer.MIN_VALUE, -2, -3};

    /** A field, and a corridor to it: the search for the way puts more on its queue than the queue is long. */
    private static final String[] FIELDS = {
        "row oooobooobo;row oooomaoooo;row oooboooood;row odoodooooo;row ocoooooooo;row ooaoocoooo;row bbaacbcbbo;"
            + "row oooooooooo;price 0 75;price 1 99;price 2 82;price 3 43;person 0 7 0 5 guided;",
        "row oooooodooo;row ooocoooooo;row ooboooooom;row ooooodmobo;row ooboooooao;row oboocaoooo;row abbcwwaabo;"
            + "row oooooooooo;price 0 56;price 1 9;price 2 24;price 3 88;person 0 7 6 4 guided;",
        "row oooooomooo;row oodcoooomm;row oooooomcoo;row amaoooacoo;row oocoocoooc;row ooooomoooo;row caacabwaco;"
            + "row oooooooooo;price 0 7;price 1 41;price 2 57;price 3 31;person 0 7 1 4 guided;"};

    private final Random random;
    private final PricedLooks x = new PricedLooks();
    private final Model m = new Model();
    private final int run;
    private int calls = 0;

    private ModelTest(int run) {
        this.run = run;
        this.random = new Random(run * 7919L + 17);
    }

    public static void main(String[] args) {
        int runs = args.length > 0 ? Integer.parseInt(args[0]) : 700;
        for (int run = 0; run < runs && due.wrongs() == 0; run++) {
            new ModelTest(run).play();
            new ModelTest(run).waysAndPrices();
        }
        for (String text : FIELDS) {
            new ModelTest(0).waysAndPrices(text, false);
        }
        due.end();
    }

    private void play() {
        readCity();
        while (calls < 500) {
            int before = due.wrongs();
            int what = random.nextInt(100);
            if (what < 2) {
                readCity();
            } else if (what < 25) {
                sheets();
            } else if (what < 60) {
                steps();
            } else if (what < 80) {
                foretold();
            } else {
                asked();
            }
            if (due.wrongs() > before) {
                return;
            }
        }
    }

    /** All that is foretold of one city, a large one at times: ways of all lengths, all best prices, all rivals. */
    private void waysAndPrices() {
        String text = run % 8 == 0 ? randomCity(10, 8) : randomCity(2 + random.nextInt(4), 1 + random.nextInt(4));
        waysAndPrices(text, run % 8 != 0);
    }

    private void waysAndPrices(String text, boolean withRivals) {
        feedAll(text);
        same("city() of " + text, m.city(), x.city());
        for (int p = 0; p < m.count(3); p++) {
            for (int g = 0; g < 6; g++) {
                for (int k = -2; k < 14; k++) {
                    same("home(" + p + ", " + g + ", " + k + ") in " + text, m.home(p, g, k), x.home(p, g, k));
                }
            }
            same("nothing(" + p + ") in " + text, m.nothing(p), x.nothing(p));
        }
        for (int o = 0; o < 6; o++) {
            same("earns(" + o + ", 1) in " + text, m.earns(o, 1), x.earns(o, 1));
        }
        for (int o = -1; o < (withRivals ? 6 : 0); o++) {
            same("rivals(" + o + ") in " + text, m.rivals(o), x.rivals(o));
        }
    }

    private void same(String call, int want, int got) {
        calls++;
        due.is("run " + run + ", call " + calls + ": " + call, want, got);
    }

    /** Mostly below a bound, at times odd. */
    private int some(int bound) {
        return random.nextInt(25) == 0 ? ODD[random.nextInt(ODD.length)] : random.nextInt(bound);
    }

    private int someCell() {
        int wide = Math.max(1, m.count(1));
        int high = Math.max(1, m.count(2));
        return random.nextInt(12) == 0 ? some(90) : random.nextInt(wide) + 10 * random.nextInt(high);
    }

    private void readCity() {
        String good = randomCity(1 + random.nextInt(10), 1 + random.nextInt(8));
        String text = random.nextInt(4) == 0 ? spoiled(good) : good;
        feedAll(text);
        same("city() of " + text, m.city(), x.city());
        same("fault()", m.fault(), x.fault());
    }

    private void feedAll(String text) {
        for (int i = 0; i < text.length(); i += 8) {
            int n = Math.min(8, text.length() - i);
            long w = Due.word(text.substring(i, i + n));
            same("feed(" + w + ", " + n + ")", m.feed(w, n), x.feed(w, n));
        }
    }

    private String randomCity(int wide, int high) {
        int openness = 3 + random.nextInt(20);
        String signs = "o".repeat(openness) + new String[] {"wmabcdef", "mab", "aabbwm", "mmma", "w", "abc"}[random.nextInt(6)];
        StringBuilder text = new StringBuilder();
        for (int y = 0; y < high; y++) {
            text.append("row ");
            for (int i = 0; i < wide; i++) {
                text.append(signs.charAt(random.nextInt(signs.length())));
            }
            text.append(random.nextInt(5) == 0 ? " ;\n" : ";");
        }
        String rows = text.toString();
        for (int n = random.nextInt(7); n > 0; n--) {
            text.append("price ").append(random.nextInt(6)).append(' ').append(random.nextInt(random.nextBoolean() ? 12 : 100));
            text.append(random.nextInt(3) == 0 ? " free;" : ";");
        }
        for (int n = random.nextInt(7); n > 0; n--) {
            String where = openCell(rows);
            String home = openCell(rows);
            if (where != null && home != null) {
                text.append("person ").append(where).append(' ').append(home);
                text.append(new String[] {"", " child", " guided", ""}[random.nextInt(4)]).append(';');
            }
        }
        return text.substring(0, Math.min(400, text.length()));
    }

    private String openCell(String rows) {
        String[] lines = rows.replaceAll("row |[ \n]", "").split(";");
        for (int tries = 0; tries < 50; tries++) {
            int y = random.nextInt(lines.length);
            int at = random.nextInt(lines[y].length());
            if (lines[y].charAt(at) == 'o') {
                return at + " " + y;
            }
        }
        return null;
    }

    private String spoiled(String text) {
        StringBuilder s = new StringBuilder(text);
        String signs = "ow;m 09afrz \n5A-";
        for (int n = 1 + random.nextInt(2); n > 0 && s.length() > 0; n--) {
            int at = random.nextInt(s.length());
            int how = random.nextInt(3);
            if (how == 0) {
                s.setCharAt(at, signs.charAt(random.nextInt(signs.length())));
            } else if (how == 1) {
                s.deleteCharAt(at);
            } else {
                s.insert(at, signs.charAt(random.nextInt(signs.length())));
            }
        }
        if (random.nextInt(5) == 0) {
            s.setLength(random.nextInt(s.length() + 1));
        }
        return s.substring(0, Math.min(400, s.length()));
    }

    private void sheets() {
        int s = some(8);
        int i = some(6);
        int j = some(6);
        int n = some(6);
        int t = some(8);
        switch (random.nextInt(9)) {
            case 0:
                int lane = some(3);
                int size = some(41);
                same("sheet(" + s + ", " + lane + ", " + size + ")", m.sheet(s, lane, size), x.sheet(s, lane, size));
                break;
            case 1: case 2: case 3:
                int v = random.nextInt(6) == 0 ? random.nextInt() : some(random.nextInt(3) == 0 ? 16 : 8);
                same("set(" + s + ", " + i + ", " + v + ")", m.set(s, i, v), x.set(s, i, v));
                break;
            case 4:
                same("copy(" + s + ", " + i + ", " + t + ", " + j + ", " + n + ")", m.copy(s, i, t, j, n), x.copy(s, i, t, j, n));
                break;
            case 5:
                if (random.nextInt(6) == 0) {
                    same("drop(" + s + ")", m.drop(s), x.drop(s));
                }
                break;
            default:
                int p = some(6);
                same("walk(" + p + ", " + s + ", " + i + ", " + n + ")", m.walk(p, s, i, n), x.walk(p, s, i, n));
        }
        same("status()", m.status(), x.status());
    }

    private void steps() {
        int p = some(Math.max(1, m.count(3)));
        int o = some(6);
        int c = someCell();
        int way = some(8);
        int what = some(3);
        switch (random.nextInt(8)) {
            case 0: case 1:
                same("look(" + c + ", " + way + ", " + what + ")", m.look(c, way, what), x.look(c, way, what));
                break;
            case 2:
                int price = some(random.nextBoolean() ? 100 : 20);
                same("price(" + o + ", " + price + ")", m.price(o, price), x.price(o, price));
                break;
            case 3: case 4:
                int step = some(16);
                same("step(" + p + ", " + step + ")", m.step(p, step), x.step(p, step));
                break;
            case 5: case 6:
                int of = some(27);
                same("person(" + p + ", " + of + ")", m.person(p, of), x.person(p, of));
                break;
            default:
                same("got(" + o + ")", m.got(o), x.got(o));
                same("witnesses(" + o + ")", m.witnesses(o), x.witnesses(o));
        }
    }

    private void foretold() {
        int p = some(Math.max(1, m.count(3)));
        int o = some(6);
        int c = someCell();
        int k = some(2);
        switch (random.nextInt(12)) {
            case 0: case 1: case 2:
                int g = random.nextInt(3) == 0 ? 0 : some(6);
                for (int at = -2; at < 12; at++) {
                    same("home(" + p + ", " + g + ", " + at + ")", m.home(p, g, at), x.home(p, g, at));
                }
                break;
            case 3:
                same("nothing(" + p + ")", m.nothing(p), x.nothing(p));
                break;
            case 4: case 5:
                int cell = random.nextInt(4) == 0 ? -1 : c;
                same("beauty(" + cell + ")", m.beauty(cell), x.beauty(cell));
                break;
            case 6: case 7:
                same("earns(" + o + ", 0)", m.earns(o, 0), x.earns(o, 0));
                break;
            case 8:
                int what = some(2);
                same("earns(" + o + ", " + what + ")", m.earns(o, what), x.earns(o, what));
                break;
            case 9:
                if (random.nextInt(8) == 0) {
                    int one = some(7) - 1;
                    same("rivals(" + one + ")", m.rivals(one), x.rivals(one));
                }
                break;
            case 10:
                same("wall(" + c + ", " + o + ")", m.wall(c, o), x.wall(c, o));
                break;
            default:
                if (random.nextBoolean()) {
                    same("image(" + k + ")", m.image(k), x.image(k));
                } else {
                    same("restore(" + k + ")", m.restore(k), x.restore(k));
                }
        }
    }

    private void asked() {
        int c = someCell();
        int what = some(2);
        switch (random.nextInt(4)) {
            case 0:
                same("kind(" + c + ")", m.kind(c), x.kind(c));
                break;
            case 1:
                int kind = some(6);
                same("as(" + c + ", " + kind + ")", m.as(c, kind), x.as(c, kind));
                same("status()", m.status(), x.status());
                break;
            case 2:
                same("ask(" + c + ", " + what + ")", m.ask(c, what), x.ask(c, what));
                for (int i = -1; i < 9; i++) {
                    same("trace(" + i + ")", m.trace(i), x.trace(i));
                }
                break;
            default:
                int of = some(8);
                same("count(" + of + ")", m.count(of), x.count(of));
        }
    }
}
