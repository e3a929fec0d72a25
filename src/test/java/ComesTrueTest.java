import java.util.ArrayList;
import java.util.List;
import java.util.Random;

/**
 * What is foretold is held against what comes of it by other calls of PricedLooks itself, without the model: ways home
 * against all rows of steps, earnings against books when all have gone home, best prices against all prices, rivals
 * against prices that are set one behind the other, a new wall against a city that is told with it.
 */
public final class ComesTrueTest {
    private static final Due due = new Due("ComesTrueTest");
    private static final int CITIES = 400;
    private static final int[] DX = {0, 1, 1, 1, 0, -1, -1, -1};
    private static final int[] DY = {-1, -1, 0, 1, 1, 1, 0, -1};

    private final Random random;
    private final List<StringBuilder> rows = new ArrayList<>();
    private final StringBuilder prices = new StringBuilder();
    private final StringBuilder people = new StringBuilder();
    private final List<Integer> open = new ArrayList<>();
    private final boolean[] free = new boolean[6];

    /** The cheapest row of steps that was found, by code letters, and its price. */
    private String way;
    private int price;

    private ComesTrueTest(int seed, int wide, int high) {
        random = new Random(seed);
        String signs = "ooooo" + new String[] {"ab", "abm", "aabbccm", "mma", "abcdefwm", "oow"}[random.nextInt(6)];
        for (int y = 0; y < high; y++) {
            rows.add(new StringBuilder());
            for (int i = 0; i < wide; i++) {
                char sign = i + y == 0 ? 'o' : signs.charAt(random.nextInt(signs.length()));
                rows.get(y).append(sign);
                if (sign == 'o') {
                    open.add(i + 10 * y);
                }
            }
        }
        for (int owner = 0; owner < 6; owner++) {
            free[owner] = random.nextInt(4) == 0;
            prices.append("price ").append(owner).append(' ').append(random.nextInt(random.nextBoolean() ? 8 : 100))
                    .append(free[owner] ? " free;" : ";");
        }
        for (int n = 1 + random.nextInt(3); n > 0; n--) {
            people.append("person ").append(openCell()).append(' ').append(openCell())
                    .append(new String[] {";", " child;", " guided;"}[random.nextInt(3)]);
        }
    }

    public static void main(String[] args) {
        for (int seed = 0; seed < CITIES; seed++) {
            ComesTrueTest small = new ComesTrueTest(seed, 1 + seed % 4, 1 + seed / 4 % 3);
            small.waysAreTheBestOfAll();
            small.forNothingIsTheLeast();
            ComesTrueTest any = new ComesTrueTest(-seed, 2 + seed % 9, 2 + seed % 7);
            any.everybodyGoesHome();
            any.bestPricesAreTheBestOfAll();
            any.rivalsAsTheySetTheirPrices();
            any.wallsAsIfTold();
            any.beautyByLooks();
        }
        due.end();
    }

    private String openCell() {
        int cell = open.get(random.nextInt(open.size()));
        return cell % 10 + " " + cell / 10;
    }

    private String text() {
        StringBuilder text = new StringBuilder();
        for (StringBuilder row : rows) {
            text.append("row ").append(row).append(';');
        }
        return text.append(prices).append(people).toString();
    }

    private void same(String call, int want, int got) {
        due.is(call + " in " + text(), want, got);
    }

    /** The cell beside a cell, if it is an open one, else -1. */
    private int beside(int cell, int way) {
        int x = cell % 10 + DX[way];
        int y = cell / 10 + DY[way];
        return x >= 0 && x < 10 && y >= 0 && open.contains(x + 10 * y) ? x + 10 * y : -1;
    }

    private void waysAreTheBestOfAll() {
        PricedLooks x = Due.of(text());
        for (int p = 0; p < x.count(3); p++) {
            int[] costs = costs(p);
            for (int g = 0; g <= (x.person(p, 2) == 2 ? 5 : 0); g++) {
                way = null;
                tryAll(costs, x.person(p, 0), x.person(p, 1), g, "", 0);
                String call = "home(" + p + ", " + g + ", ";
                same(call + "-2)", way == null ? Due.NONE : price, x.home(p, g, -2));
                same(call + "-1)", way == null ? Due.NONE : way.length(), x.home(p, g, -1));
                for (int k = 0; way != null && k <= way.length(); k++) {
                    same(call + k + ")", k < way.length() ? way.charAt(k) - 'a' : Due.NONE, x.home(p, g, k));
                }
            }
        }
    }

    /** By cells and ways, what a look costs somebody. */
    private int[] costs(int p) {
        PricedLooks x = Due.of(text());
        boolean child = x.person(p, 2) == 1;
        int[] costs = new int[8 * 80];
        for (int cell : open) {
            for (int way = 0; way < 8; way++) {
                int seen = x.look(cell, way, 0);
                char sign = seen < 0 ? 'w' : rows.get(seen / 10).charAt(seen % 10);
                boolean nothing = child && sign >= 'a' && sign <= 'f' && free[sign - 'a'];
                costs[8 * cell + way] = nothing ? 0 : x.look(cell, way, 1);
            }
        }
        return costs;
    }

    /** A way that comes back to a cell is longer than the one without that round, and no cheaper. */
    private void tryAll(int[] costs, int cell, int home, int g, String gone, int paid) {
        if (cell == home) {
            if (way == null || paid < price || paid == price && earlier(gone, way)) {
                way = gone;
                price = paid;
            }
            return;
        }
        int at = open.indexOf(cell);
        open.set(at, -1);
        for (int code = 0; code < (g > 0 ? 16 : 8); code++) {
            int next = beside(cell, code % 8);
            if (next >= 0) {
                int cost = code < 8 ? costs[8 * cell + code] : 0;
                tryAll(costs, next, home, code < 8 ? g : g - 1, gone + (char) ('a' + code), paid + cost);
            }
        }
        open.set(at, cell);
    }

    private static boolean earlier(String one, String other) {
        return one.length() != other.length() ? one.length() < other.length() : one.compareTo(other) < 0;
    }

    private void forNothingIsTheLeast() {
        PricedLooks x = Due.of(text());
        for (int p = 0; p < x.count(3); p++) {
            int least = Due.NONE;
            for (int g = 5; g >= 0; g--) {
                least = x.home(p, g, -2) == 0 ? g : least;
            }
            same("nothing(" + p + ")", least, x.nothing(p));
        }
    }

    private void everybodyGoesHome() {
        PricedLooks x = Due.of(text());
        int[] earned = new int[6];
        for (int owner = 0; owner < 6; owner++) {
            earned[owner] = x.earns(owner, 0);
        }
        for (int p = 0; p < x.count(3); p++) {
            goesHome(x, p);
        }
        for (int owner = 0; owner < 6; owner++) {
            same("got(" + owner + ")", earned[owner], x.got(owner));
            int paid = 0;
            int unseeing = 0;
            for (int p = 0; p < x.count(3); p++) {
                paid += x.person(p, 10 + owner);
                unseeing |= x.person(p, 20 + owner) == 0 ? 1 << p : 0;
            }
            same("got(" + owner + ") of all", paid, x.got(owner));
            same("witnesses(" + owner + ")", unseeing, x.witnesses(owner));
        }
    }

    /** All his steps are foretold ahead, and then gone by rows of at most 40. */
    private void goesHome(PricedLooks x, int p) {
        int steps = x.home(p, 0, -1);
        if (steps < 0) {
            return;
        }
        int foretold = x.home(p, 0, -2);
        int[] codes = new int[steps];
        for (int k = 0; k < steps; k++) {
            codes[k] = x.home(p, 0, k);
        }
        x.sheet(0, 0, 40);
        int paid = 0;
        for (int k = 0; k < steps; k++) {
            x.set(0, k % 40, codes[k]);
            paid += k % 40 == 39 || k == steps - 1 ? x.walk(p, 0, 0, k % 40 + 1) : 0;
        }
        same("walks home of " + p, foretold, paid);
        same("place of " + p, x.person(p, 1), x.person(p, 0));
        same("steps of " + p, steps, x.person(p, 4));
        same("paid by " + p, foretold, x.person(p, 3));
        for (int owner = 0; owner < 6; owner++) {
            paid -= x.person(p, 10 + owner);
        }
        same("paid by " + p + " to nobody", 0, paid);
    }

    private void bestPricesAreTheBestOfAll() {
        PricedLooks x = Due.of(text());
        for (int owner = 0; owner < 6; owner++) {
            int foretold = x.earns(owner, 1);
            int told = x.price(owner, 0);
            int best = 0;
            int most = x.earns(owner, 0);
            for (int p = 1; p <= 20; p++) {
                x.price(owner, p);
                int earned = x.earns(owner, 0);
                if (earned > most) {
                    most = earned;
                    best = p;
                }
            }
            same("price(" + owner + ", ..)", 20, x.price(owner, told));
            same("earns(" + owner + ", 1)", best, foretold);
        }
    }

    private void rivalsAsTheySetTheirPrices() {
        PricedLooks x = Due.of(text());
        int[] foretold = new int[6];
        int rounds = x.rivals(-1);
        for (int owner = 0; owner < 6; owner++) {
            foretold[owner] = x.rivals(owner);
        }
        int rest = Due.NONE;
        for (int round = 1; round <= 10 && rest == Due.NONE; round++) {
            boolean changed = false;
            for (int owner = 0; owner < 6; owner++) {
                if (String.join("", rows).indexOf('a' + owner) >= 0) {
                    int best = x.earns(owner, 1);
                    changed |= x.price(owner, best) != best;
                }
            }
            rest = changed ? rest : round;
        }
        same("rivals(-1)", rest, rounds);
        for (int owner = 0; owner < 6; owner++) {
            same("rivals(" + owner + ")", x.price(owner, 0), foretold[owner]);
        }
    }

    private void wallsAsIfTold() {
        PricedLooks x = Due.of(text());
        int cell = open.get(random.nextInt(open.size()));
        int[] less = new int[6];
        int[] earned = new int[6];
        for (int owner = 0; owner < 6; owner++) {
            less[owner] = x.wall(cell, owner);
            earned[owner] = x.earns(owner, 0);
        }
        boolean taken = false;
        for (int p = 0; p < x.count(3); p++) {
            taken |= x.person(p, 0) == cell || x.person(p, 1) == cell;
        }
        rows.get(cell / 10).setCharAt(cell % 10, 'w');
        PricedLooks walled = taken ? x : Due.of(text());
        rows.get(cell / 10).setCharAt(cell % 10, 'o');
        for (int owner = 0; owner < 6; owner++) {
            int want = taken ? Due.BAD : earned[owner] - walled.earns(owner, 0);
            same("wall(" + cell + ", " + owner + ")", want, less[owner]);
        }
    }

    private void beautyByLooks() {
        PricedLooks x = Due.of(text());
        int best = open.get(0);
        for (int cell : open) {
            int many = 0;
            for (int way = 0; way < 8; way++) {
                for (int next = beside(cell, way); next >= 0; next = beside(next, way)) {
                    many++;
                }
            }
            same("beauty(" + cell + ")", many, x.beauty(cell));
            best = x.beauty(cell) > x.beauty(best) ? cell : best;
        }
        same("beauty(-1)", best, x.beauty(-1));
    }
}
