import java.util.ArrayList;
import java.util.List;

/**
 * The document told a second time, as plainly as it can be and with the whole Java library: looks are walked cell by
 * cell, ways home are compared as whole rows of steps, every price is tried. What PricedLooks answers is held
 * against this.
 */
final class Model {
    static final int NONE = -1000000, BAD = -1000001, STATE = -1000002, FULL = -1000003;
    static final int[] DX = {0, 1, 1, 1, 0, -1, -1, -1}, DY = {-1, -1, 0, 1, 1, 1, 0, -1};

    static final class Person {
        int x, y, homeX, homeY, steps;
        String how = "";
        int[] paid = new int[6], blinks = new int[6];

        Person copy() {
            Person p = new Person();
            p.x = x;
            p.y = y;
            p.homeX = homeX;
            p.homeY = homeY;
            p.steps = steps;
            p.how = how;
            p.paid = paid.clone();
            p.blinks = blinks.clone();
            return p;
        }
    }

    static final class Town {
        List<String> rows = new ArrayList<>();
        int[] price = new int[6];
        boolean[] free = new boolean[6];
        List<Person> people = new ArrayList<>();

        Town copy() {
            Town t = new Town();
            t.rows.addAll(rows);
            t.price = price.clone();
            t.free = free.clone();
            for (Person p : people) {
                t.people.add(p.copy());
            }
            return t;
        }

        /** The sign of a cell; a blank beyond the city. */
        char at(int x, int y) {
            return y < 0 || y >= rows.size() || x < 0 || x >= rows.get(0).length() ? ' ' : rows.get(y).charAt(x);
        }

        boolean open(int cell) {
            return cell >= 0 && at(cell % 10, cell / 10) == 'o';
        }

        boolean cell(int cell) {
            return cell >= 0 && at(cell % 10, cell / 10) != ' ';
        }

        /** The cell seen (-1: nothing), mirrors, price, owner (-1). */
        int[] look(int cell, int way) {
            int one = along(cell, way);
            int mirrors = 0;
            if (one >= 0 && at(one % 10, one / 10) == 'm') {
                mirrors = 1;
                one = along(cell, (way + 4) % 8);
                if (one >= 0 && at(one % 10, one / 10) == 'm') {
                    mirrors = 2;
                    one = -1;
                }
            }
            char sign = one < 0 ? ' ' : at(one % 10, one / 10);
            int owner = "abcdef".indexOf(sign);
            int cost = owner < 0 ? 0 : mirrors == 1 ? 2 * price[owner] : price[owner];
            return new int[] {one, mirrors, cost, owner};
        }

        private int along(int cell, int way) {
            int x = cell % 10 + DX[way];
            int y = cell / 10 + DY[way];
            while (at(x, y) == 'o') {
                x += DX[way];
                y += DY[way];
            }
            return at(x, y) == ' ' ? -1 : x + 10 * y;
        }

        int costTo(Person p, int[] seen) {
            return seen[3] < 0 || p.how.equals("child") && free[seen[3]] ? 0 : seen[2];
        }
    }

    static final class Way {
        int cost;
        String steps;

        Way(int cost, String steps) {
            this.cost = cost;
            this.steps = steps;
        }

        boolean before(Way other) {
            if (other == null) {
                return true;
            }
            if (cost != other.cost) {
                return cost < other.cost;
            }
            if (steps.length() != other.steps.length()) {
                return steps.length() < other.steps.length();
            }
            return steps.compareTo(other.steps) < 0;
        }
    }

    private final int[][] sheets = new int[8][];
    private final int[] lanes = new int[8];
    private final StringBuilder tape = new StringBuilder();
    private final Town[] images = new Town[2];
    private final List<Integer> trace = new ArrayList<>();
    private Town town = null;
    private int fault = 0;
    private int status = 0;

    private int found(int n) {
        status = n;
        return -1000010 - n;
    }

    private int fine(int n) {
        status = 0;
        return n;
    }

    private static boolean in(int n, int least, int most) {
        return n >= least && n <= most;
    }

    int sheet(int sheet, int lane, int n) {
        if (!in(sheet, 0, 7) || !in(lane, 0, 2) || n > 40) {
            return BAD;
        }
        if (n < 0) {
            return found(4);
        }
        sheets[sheet] = new int[n];
        lanes[sheet] = lane;
        return fine(n);
    }

    int set(int sheet, int i, int v) {
        if (!in(sheet, 0, 7)) {
            return BAD;
        }
        if (sheets[sheet] == null) {
            return found(1);
        }
        if (!in(i, 0, sheets[sheet].length - 1)) {
            return found(2);
        }
        int shift = new int[] {24, 16, 0}[lanes[sheet]];
        sheets[sheet][i] = v << shift >> shift;
        return fine(sheets[sheet][i]);
    }

    int copy(int a, int i, int b, int j, int n) {
        if (!in(a, 0, 7) || !in(b, 0, 7)) {
            return BAD;
        }
        if (sheets[a] == null || sheets[b] == null) {
            return found(1);
        }
        if (lanes[a] != lanes[b]) {
            return found(5);
        }
        if (i < 0 || j < 0 || n < 0 || (long) i + n > sheets[a].length || (long) j + n > sheets[b].length) {
            return found(2);
        }
        int[] were = sheets[a].clone();
        for (int k = 0; k < n; k++) {
            sheets[b][j + k] = were[i + k];
        }
        return fine(n);
    }

    int drop(int sheet) {
        if (!in(sheet, 0, 7)) {
            return BAD;
        }
        if (sheets[sheet] == null) {
            return found(1);
        }
        int n = sheets[sheet].length;
        sheets[sheet] = null;
        return fine(n);
    }

    int feed(long w, int n) {
        if (!in(n, 1, 8)) {
            return BAD;
        }
        if (tape.length() + n > 400) {
            return FULL;
        }
        for (int i = n - 1; i >= 0; i--) {
            tape.append((char) (w >> 8 * i & 255));
        }
        return tape.length();
    }

    int city() {
        ModelText text = new ModelText(tape.toString());
        tape.setLength(0);
        Town read = text.town();
        if (read == null) {
            fault = text.fault;
            return -1000100 - text.place;
        }
        town = read;
        return town.people.size();
    }

    int fault() {
        return fault;
    }

    int look(int cell, int way, int what) {
        if (town == null || !town.open(cell) || !in(way, 0, 7) || !in(what, 0, 2)) {
            return BAD;
        }
        int[] seen = town.look(cell, way);
        return what == 0 ? seen[0] < 0 ? NONE : seen[0] : what == 1 ? seen[2] : seen[1];
    }

    int price(int owner, int p) {
        if (town == null) {
            return STATE;
        }
        if (!in(owner, 0, 5) || !in(p, 0, 99)) {
            return BAD;
        }
        int was = town.price[owner];
        town.price[owner] = p;
        return was;
    }

    private boolean somebody(int person) {
        return town != null && in(person, 0, town.people.size() - 1);
    }

    private boolean guided(int person) {
        return town.people.get(person).how.equals("guided");
    }

    int step(int person, int way) {
        if (!somebody(person) || !in(way, 0, guided(person) ? 15 : 7)) {
            return BAD;
        }
        Person p = town.people.get(person);
        int cost = 0;
        if (way < 8) {
            int[] seen = town.look(p.x + 10 * p.y, way);
            if (seen[3] >= 0) {
                cost = town.costTo(p, seen);
                p.paid[seen[3]] += cost;
                p.blinks[seen[3]]++;
            }
        }
        if (town.at(p.x + DX[way % 8], p.y + DY[way % 8]) == 'o') {
            p.x += DX[way % 8];
            p.y += DY[way % 8];
        }
        p.steps++;
        return cost;
    }

    int walk(int person, int sheet, int i, int n) {
        if (!somebody(person) || !in(sheet, 0, 7) || !in(n, 1, 40)) {
            return BAD;
        }
        if (sheets[sheet] == null) {
            return found(1);
        }
        if (i < 0 || (long) i + n > sheets[sheet].length) {
            return found(2);
        }
        for (int k = 0; k < n; k++) {
            if (!in(sheets[sheet][i + k], 0, guided(person) ? 15 : 7)) {
                return BAD;
            }
        }
        int sum = 0;
        for (int k = 0; k < n; k++) {
            sum += step(person, sheets[sheet][i + k]);
        }
        return fine(sum);
    }

    int person(int person, int what) {
        if (!somebody(person)) {
            return BAD;
        }
        Person p = town.people.get(person);
        if (in(what, 10, 15)) {
            return p.paid[what - 10];
        }
        if (in(what, 20, 25)) {
            return p.blinks[what - 20];
        }
        switch (what) {
            case 0: return p.x + 10 * p.y;
            case 1: return p.homeX + 10 * p.homeY;
            case 2: return List.of("", "child", "guided").indexOf(p.how);
            case 3: return p.paid[0] + p.paid[1] + p.paid[2] + p.paid[3] + p.paid[4] + p.paid[5];
            case 4: return p.steps;
            default: return BAD;
        }
    }

    int got(int owner) {
        if (town == null) {
            return STATE;
        }
        return in(owner, 0, 5) ? town.people.stream().mapToInt(p -> p.paid[owner]).sum() : BAD;
    }

    int witnesses(int owner) {
        if (town == null) {
            return STATE;
        }
        if (!in(owner, 0, 5)) {
            return BAD;
        }
        int bits = 0;
        for (int n = 0; n < town.people.size(); n++) {
            bits += town.people.get(n).blinks[owner] == 0 ? 1 << n : 0;
        }
        return bits;
    }

    /** The best row of steps from each cell with each number of blind steps, bettered till nothing is better. */
    static Way way(Town t, Person p, int g) {
        Way[][] best = new Way[g + 1][80];
        for (int b = 0; b <= g; b++) {
            best[b][p.homeX + 10 * p.homeY] = new Way(0, "");
        }
        int[][][] seen = new int[80][8][];
        boolean better = true;
        while (better) {
            better = false;
            for (int cell = 0; cell < 80; cell++) {
                if (!t.open(cell)) {
                    continue;
                }
                for (int code = 0; code < 16; code++) {
                    int way = code % 8;
                    int x = cell % 10 + DX[way];
                    int y = cell / 10 + DY[way];
                    if (t.at(x, y) != 'o') {
                        continue;
                    }
                    if (seen[cell][way] == null) {
                        seen[cell][way] = t.look(cell, way);
                    }
                    int cost = code < 8 ? t.costTo(p, seen[cell][way]) : 0;
                    for (int b = code < 8 ? 0 : 1; b <= g; b++) {
                        Way on = best[code < 8 ? b : b - 1][x + 10 * y];
                        if (on == null || best[b][cell] != null && on.cost + cost > best[b][cell].cost) {
                            continue;
                        }
                        Way whole = new Way(on.cost + cost, (char) ('A' + code) + on.steps);
                        if (whole.before(best[b][cell])) {
                            best[b][cell] = whole;
                            better = true;
                        }
                    }
                }
            }
        }
        return best[g][p.x + 10 * p.y];
    }

    int home(int person, int g, int k) {
        if (!somebody(person) || !in(g, 0, guided(person) ? 5 : 0) || k < -2) {
            return BAD;
        }
        Way way = way(town, town.people.get(person), g);
        if (way == null) {
            return NONE;
        }
        if (k < 0) {
            return k == -2 ? way.cost : way.steps.length();
        }
        return k < way.steps.length() ? way.steps.charAt(k) - 'A' : NONE;
    }

    int nothing(int person) {
        if (!somebody(person)) {
            return BAD;
        }
        for (int g = 0; g <= (guided(person) ? 5 : 0); g++) {
            Way way = way(town, town.people.get(person), g);
            if (way != null && way.cost == 0) {
                return g;
            }
        }
        return NONE;
    }

    /** From each other open cell the looks are walked, till one comes over the cell. */
    private int overIt(int cell) {
        int many = 0;
        for (int from = 0; from < 80; from++) {
            boolean over = false;
            for (int way = 0; way < 8 && from != cell && town.open(from); way++) {
                int x = from % 10 + DX[way];
                int y = from / 10 + DY[way];
                while (town.at(x, y) == 'o') {
                    over |= x + 10 * y == cell;
                    x += DX[way];
                    y += DY[way];
                }
            }
            many += over ? 1 : 0;
        }
        return many;
    }

    int beauty(int cell) {
        if (town == null) {
            return STATE;
        }
        if (cell != -1) {
            return town.open(cell) ? overIt(cell) : BAD;
        }
        int best = BAD;
        for (int c = 0; c < 80; c++) {
            if (town.open(c) && (best == BAD || overIt(c) > overIt(best))) {
                best = c;
            }
        }
        return best;
    }

    static int earned(Town t, int owner) {
        int sum = 0;
        for (Person p : t.people) {
            Way way = way(t, p, 0);
            int cell = p.x + 10 * p.y;
            for (int k = 0; way != null && k < way.steps.length(); k++) {
                int code = way.steps.charAt(k) - 'A';
                int[] seen = t.look(cell, code);
                sum += seen[3] == owner ? t.costTo(p, seen) : 0;
                cell += DX[code] + 10 * DY[code];
            }
        }
        return sum;
    }

    static int best(Town of, int owner) {
        Town t = of.copy();
        int best = -1;
        int most = -1;
        for (int p = 0; p <= 20; p++) {
            t.price[owner] = p;
            int sum = earned(t, owner);
            if (sum > most) {
                most = sum;
                best = p;
            }
        }
        return best;
    }

    int earns(int owner, int what) {
        if (town == null) {
            return STATE;
        }
        if (!in(owner, 0, 5) || !in(what, 0, 1)) {
            return BAD;
        }
        return what == 0 ? earned(town, owner) : best(town, owner);
    }

    int rivals(int owner) {
        if (town == null) {
            return STATE;
        }
        if (!in(owner, -1, 5)) {
            return BAD;
        }
        Town t = town.copy();
        String all = String.join("", t.rows);
        for (int round = 1; round <= 10; round++) {
            int[] were = t.price.clone();
            for (int o = 0; o < 6; o++) {
                if (all.indexOf('a' + o) >= 0) {
                    t.price[o] = best(t, o);
                }
            }
            if (java.util.Arrays.equals(were, t.price)) {
                return owner == -1 ? round : t.price[owner];
            }
        }
        return owner == -1 ? NONE : t.price[owner];
    }

    int wall(int cell, int owner) {
        if (town == null || !town.open(cell) || !in(owner, 0, 5)) {
            return BAD;
        }
        for (Person p : town.people) {
            if (p.x + 10 * p.y == cell || p.homeX + 10 * p.homeY == cell) {
                return BAD;
            }
        }
        Town t = town.copy();
        StringBuilder row = new StringBuilder(t.rows.get(cell / 10));
        row.setCharAt(cell % 10, 'w');
        t.rows.set(cell / 10, row.toString());
        return earned(town, owner) - earned(t, owner);
    }

    int image(int k) {
        if (!in(k, 0, 1)) {
            return BAD;
        }
        if (town == null) {
            return STATE;
        }
        images[k] = town.copy();
        return 1;
    }

    int restore(int k) {
        if (!in(k, 0, 1)) {
            return BAD;
        }
        if (images[k] == null) {
            return STATE;
        }
        town = images[k].copy();
        return 1;
    }

    /** The kinds in Java's own way: what is asked is a method, what a kind tells anew overrides. */
    private static class Cell {
        final Town t;
        final int cell;
        final List<Integer> trace;

        Cell(Town t, int cell, List<Integer> trace) {
            this.t = t;
            this.cell = cell;
            this.trace = trace;
        }

        int size() {
            trace.add(10);
            int many = 0;
            for (int way = 0; way < 8; way++) {
                many += t.at(cell % 10 + DX[way], cell / 10 + DY[way]) == 'o' ? 1 : 0;
            }
            return many;
        }

        int mark() {
            trace.add(20);
            return cell;
        }
    }

    private static class Open extends Cell {
        Open(Town t, int cell, List<Integer> trace) {
            super(t, cell, trace);
        }

        @Override
        int size() {
            trace.add(14);
            return super.size() - mark();
        }
    }

    private static class Wall extends Cell {
        Wall(Town t, int cell, List<Integer> trace) {
            super(t, cell, trace);
        }

        @Override
        int size() {
            trace.add(11);
            return -super.size();
        }
    }

    private static class Front extends Wall {
        Front(Town t, int cell, List<Integer> trace) {
            super(t, cell, trace);
        }

        @Override
        int size() {
            trace.add(12);
            return super.size() + mark();
        }

        @Override
        int mark() {
            trace.add(21);
            return super.mark() + 100 * t.price[t.at(cell % 10, cell / 10) - 'a'];
        }
    }

    private static class Mirror extends Wall {
        Mirror(Town t, int cell, List<Integer> trace) {
            super(t, cell, trace);
        }

        @Override
        int mark() {
            trace.add(22);
            return super.mark() + size();
        }
    }

    private static class Dear extends Front {
        Dear(Town t, int cell, List<Integer> trace) {
            super(t, cell, trace);
        }

        @Override
        int size() {
            trace.add(13);
            return super.size() * 2;
        }

        @Override
        int mark() {
            trace.add(23);
            return super.mark() - 1000;
        }
    }

    private Cell asCell(int cell) {
        char sign = town.at(cell % 10, cell / 10);
        if (sign == 'o') {
            return new Open(town, cell, trace);
        }
        if (sign == 'w') {
            return new Wall(town, cell, trace);
        }
        if (sign == 'm') {
            return new Mirror(town, cell, trace);
        }
        return town.price[sign - 'a'] >= 50 ? new Dear(town, cell, trace) : new Front(town, cell, trace);
    }

    private static final Class<?>[] CLASSES =
            {Cell.class, Open.class, Wall.class, Front.class, Mirror.class, Dear.class};

    int kind(int cell) {
        if (town == null || !town.cell(cell)) {
            return BAD;
        }
        return java.util.Arrays.asList(CLASSES).indexOf(asCell(cell).getClass());
    }

    int as(int cell, int kind) {
        if (town == null || !town.cell(cell) || !in(kind, 0, 5)) {
            return BAD;
        }
        return CLASSES[kind].isInstance(asCell(cell)) ? fine(cell) : found(3);
    }

    int ask(int cell, int what) {
        if (town == null || !town.cell(cell) || !in(what, 0, 1)) {
            return BAD;
        }
        trace.clear();
        Cell c = asCell(cell);
        return what == 0 ? c.size() : c.mark();
    }

    int trace(int i) {
        return in(i, 0, Math.min(16, trace.size()) - 1) ? trace.get(i) : NONE;
    }

    int count(int what) {
        String all = town == null ? "" : String.join("", town.rows);
        switch (what) {
            case 0: return (int) java.util.Arrays.stream(sheets).filter(s -> s != null).count();
            case 1: return town == null ? 0 : town.rows.get(0).length();
            case 2: return town == null ? 0 : town.rows.size();
            case 3: return town == null ? 0 : town.people.size();
            case 4: return all.replaceAll("[^a-f]", "").length();
            case 5: return all.replaceAll("[^m]", "").length();
            case 6: return tape.length();
            default: return BAD;
        }
    }

    int status() {
        return status;
    }
}
