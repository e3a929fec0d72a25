import java.util.Arrays;

/** The price of a look: a city of walls, fronts and mirrors, and what its people pay for what they see. */
public final class PricedLooks {
    public static final int NONE = -1000000, BAD = -1000001, STATE = -1000002, FULL = -1000003;

    private static final int FOUND = -1000010, FAULTED = -1000100;
    private static final int NO_FINDING = 0, NULL = 1, PLACE = 2, KIND = 3, SIZE = 4, STORE = 5;

    private static final int SHEETS = 8, MOST_ITEMS = 40, LANES = 3;
    private static final int WIDEST = 10, HIGHEST = 8, CELLS = WIDEST * HIGHEST;
    private static final int OWNERS = 6, MOST_PEOPLE = 6, HIGHEST_PRICE = 99;
    private static final int WAYS = 8, OPPOSITE = 4, VIEWS = CELLS * WAYS;
    private static final int MOST_BLIND = 5, MOST_TRIED = 20, MOST_ROUNDS = 10;
    private static final int IMAGES = 2, KINDS = 6, ASKS = 2;

    /** What stands for a cell beyond the city, and for the owner of what is no front. */
    private static final int NOWHERE = -1, NOBODY = OWNERS;

    private static final int USUAL = 0, CHILD = 1, GUIDED = 2;

    /** What a cell is in the grid; a front is FRONT and the number of its owner. */
    private static final int OPEN = 0, WALL = 1, MIRROR = 2, FRONT = 3;

    private static final int[] EAST = {0, 1, 1, 1, 0, -1, -1, -1};
    private static final int[] SOUTH = {-1, -1, 0, 1, 1, 1, 0, -1};

    private final Sheet[] sheets = new Sheet[SHEETS];
    private final Tape tape = new Tape();
    private final City city = new City();
    private final City draft = new City();
    private final Reader reader = new Reader(tape, draft);
    private final City[] images = new City[IMAGES];
    private final Views views = new Views();
    private final Views walled = new Views();
    private final WayHome wayHome = new WayHome(city, views);
    private final Market market = new Market(city, wayHome);
    private final Asks asks = new Asks(city);
    private int latestFault = 0;
    private int finding = NO_FINDING;

    public PricedLooks() {
        for (int i = 0; i < SHEETS; i++) {
            sheets[i] = new Sheet();
        }
        for (int k = 0; k < IMAGES; k++) {
            images[k] = new City();
        }
    }

    // ---- sheets

    public int sheet(int sheet, int lane, int n) {
        if (!isSheet(sheet) || !within(lane, LANES) || n > MOST_ITEMS) {
            return BAD;
        }
        if (n < 0) {
            return found(SIZE);
        }
        sheets[sheet].begin(lane, n);
        return fine(n);
    }

    public int set(int sheet, int i, int v) {
        if (!isSheet(sheet)) {
            return BAD;
        }
        Sheet s = sheets[sheet];
        if (s.isMissing()) {
            return found(NULL);
        }
        if (!within(i, s.size)) {
            return found(PLACE);
        }
        return fine(s.put(i, v));
    }

    public int copy(int a, int i, int b, int j, int n) {
        if (!isSheet(a) || !isSheet(b)) {
            return BAD;
        }
        Sheet from = sheets[a];
        Sheet to = sheets[b];
        if (from.isMissing() || to.isMissing()) {
            return found(NULL);
        }
        if (from.lane != to.lane) {
            return found(STORE);
        }
        if (!from.hasRow(i, n) || !to.hasRow(j, n)) {
            return found(PLACE);
        }
        System.arraycopy(from.items, i, to.items, j, n);
        return fine(n);
    }

    public int drop(int sheet) {
        if (!isSheet(sheet)) {
            return BAD;
        }
        Sheet s = sheets[sheet];
        if (s.isMissing()) {
            return found(NULL);
        }
        int had = s.size;
        s.begin(Sheet.MISSING, 0);
        return fine(had);
    }

    // ---- cities, steps

    public int feed(long w, int n) {
        if (n < 1 || n > 8) {
            return BAD;
        }
        if (!tape.hasRoom(n)) {
            return FULL;
        }
        tape.append(w, n);
        return tape.size;
    }

    public int city() {
        boolean whole = reader.read();
        tape.size = 0;
        if (!whole) {
            latestFault = reader.faultNumber;
            return FAULTED - reader.faultPlace;
        }
        city.become(draft);
        views.draw(city);
        return city.people;
    }

    public int fault() {
        return latestFault;
    }

    public int look(int cell, int way, int what) {
        if (!city.isOpen(cell) || !within(way, WAYS)) {
            return BAD;
        }
        int view = cell * WAYS + way;
        if (what == 0) {
            return views.seen[view] == NOWHERE ? NONE : views.seen[view];
        }
        if (what == 1) {
            return city.priceAt(views.seen[view]) * views.times(view);
        }
        return what == 2 ? views.mirrors[view] : BAD;
    }

    public int price(int owner, int p) {
        if (noCity()) {
            return STATE;
        }
        if (!isOwner(owner) || p < 0 || p > HIGHEST_PRICE) {
            return BAD;
        }
        int was = city.prices[owner];
        city.prices[owner] = p;
        return was;
    }

    public int step(int person, int way) {
        if (!isPerson(person) || !canStep(person, way)) {
            return BAD;
        }
        return goOneStep(person, way);
    }

    public int walk(int person, int sheet, int i, int n) {
        if (!isPerson(person) || !isSheet(sheet) || n < 1 || n > MOST_ITEMS) {
            return BAD;
        }
        Sheet s = sheets[sheet];
        if (s.isMissing()) {
            return found(NULL);
        }
        if (!s.hasRow(i, n)) {
            return found(PLACE);
        }
        for (int k = i; k < i + n; k++) {
            if (!canStep(person, s.items[k])) {
                return BAD;
            }
        }
        int cost = 0;
        for (int k = i; k < i + n; k++) {
            cost += goOneStep(person, s.items[k]);
        }
        return fine(cost);
    }

    public int person(int person, int what) {
        if (!isPerson(person)) {
            return BAD;
        }
        if (within(what - 10, OWNERS)) {
            return city.paid[person * OWNERS + what - 10];
        }
        if (within(what - 20, OWNERS)) {
            return city.blinks[person * OWNERS + what - 20];
        }
        switch (what) {
            case 0: return city.places[person];
            case 1: return city.homes[person];
            case 2: return city.manners[person];
            case 3: return city.paidBy(person);
            case 4: return city.gone[person];
            default: return BAD;
        }
    }

    public int got(int owner) {
        if (noCity()) {
            return STATE;
        }
        return isOwner(owner) ? city.paidTo(owner) : BAD;
    }

    public int witnesses(int owner) {
        if (noCity()) {
            return STATE;
        }
        return isOwner(owner) ? city.unseeing(owner) : BAD;
    }

    // ---- foretold

    public int home(int person, int g, int k) {
        if (!isPerson(person) || g < 0 || g > mostBlind(person) || k < -2) {
            return BAD;
        }
        wayHome.regard(views, city.prices);
        if (!wayHome.search(person, g)) {
            return NONE;
        }
        if (k == -2) {
            return wayHome.cost();
        }
        return k == -1 ? wayHome.length() : wayHome.stepAt(k);
    }

    public int nothing(int person) {
        if (!isPerson(person)) {
            return BAD;
        }
        wayHome.regard(views, city.prices);
        for (int g = 0; g <= mostBlind(person); g++) {
            if (wayHome.search(person, g) && wayHome.cost() == 0) {
                return g;
            }
        }
        return NONE;
    }

    public int beauty(int cell) {
        if (noCity()) {
            return STATE;
        }
        if (cell == -1) {
            int best = mostBeautiful();
            return best == NOWHERE ? BAD : best;
        }
        return city.isOpen(cell) ? seenFrom(cell) : BAD;
    }

    public int earns(int owner, int what) {
        if (noCity()) {
            return STATE;
        }
        if (!isOwner(owner) || !within(what, 2)) {
            return BAD;
        }
        market.open(views);
        return what == 0 ? market.earnings(owner) : market.bestPrice(owner);
    }

    public int rivals(int owner) {
        if (noCity()) {
            return STATE;
        }
        if (owner != -1 && !isOwner(owner)) {
            return BAD;
        }
        market.open(views);
        int rounds = market.compete();
        return owner == -1 ? rounds : market.trial[owner];
    }

    public int wall(int cell, int owner) {
        if (!city.isOpen(cell) || city.isTaken(cell) || !isOwner(owner)) {
            return BAD;
        }
        market.open(views);
        int before = market.earnings(owner);
        city.cells[cell] = WALL;
        walled.draw(city);
        city.cells[cell] = OPEN;
        market.open(walled);
        return before - market.earnings(owner);
    }

    public int image(int k) {
        if (!within(k, IMAGES)) {
            return BAD;
        }
        if (noCity()) {
            return STATE;
        }
        images[k].become(city);
        return 1;
    }

    public int restore(int k) {
        if (!within(k, IMAGES)) {
            return BAD;
        }
        if (images[k].isNone()) {
            return STATE;
        }
        city.become(images[k]);
        views.draw(city);
        return 1;
    }

    // ---- asked

    public int kind(int cell) {
        return city.isCell(cell) ? asks.kindOf(cell) : BAD;
    }

    public int as(int cell, int kind) {
        if (!city.isCell(cell) || !within(kind, KINDS)) {
            return BAD;
        }
        return asks.isA(cell, kind) ? fine(cell) : found(KIND);
    }

    public int ask(int cell, int what) {
        if (!city.isCell(cell) || !within(what, ASKS)) {
            return BAD;
        }
        return asks.answer(cell, what);
    }

    public int trace(int i) {
        return within(i, asks.traced) ? asks.bodies[i] : NONE;
    }

    public int count(int what) {
        switch (what) {
            case 0: return sheetsThere();
            case 1: return city.wide;
            case 2: return city.high;
            case 3: return city.people;
            case 4: return city.fronts();
            case 5: return city.mirrors();
            case 6: return tape.size;
            default: return BAD;
        }
    }

    public int status() {
        return finding;
    }

    private int found(int number) {
        finding = number;
        return FOUND - number;
    }

    private int fine(int answer) {
        finding = NO_FINDING;
        return answer;
    }

    private static boolean within(int number, int bound) {
        return number >= 0 && number < bound;
    }

    private static boolean isSheet(int sheet) {
        return within(sheet, SHEETS);
    }

    private static boolean isOwner(int owner) {
        return within(owner, OWNERS);
    }

    private boolean isPerson(int person) {
        return within(person, city.people);
    }

    private boolean noCity() {
        return city.isNone();
    }

    private int sheetsThere() {
        int there = 0;
        for (int i = 0; i < SHEETS; i++) {
            if (!sheets[i].isMissing()) {
                there++;
            }
        }
        return there;
    }

    private int mostBlind(int person) {
        return city.manners[person] == GUIDED ? MOST_BLIND : 0;
    }

    private boolean canStep(int person, int code) {
        return within(code, city.manners[person] == GUIDED ? 2 * WAYS : WAYS);
    }

    private int goOneStep(int person, int code) {
        int view = city.places[person] * WAYS + code % WAYS;
        int cost = code < WAYS ? lookAndPay(person, view) : 0;
        if (views.next[view] != NOWHERE) {
            city.places[person] = views.next[view];
        }
        city.gone[person]++;
        return cost;
    }

    private int lookAndPay(int person, int view) {
        int owner = views.front[view];
        if (owner == NOBODY) {
            return 0;
        }
        int cost = city.pays(person, owner) ? city.prices[owner] * views.times(view) : 0;
        city.paid[person * OWNERS + owner] += cost;
        city.blinks[person * OWNERS + owner]++;
        return cost;
    }

    /** A line of open cells is looked along from both ends, so those seen from here are those that see here. */
    private int seenFrom(int cell) {
        int many = 0;
        for (int way = 0; way < WAYS; way++) {
            int at = views.next[cell * WAYS + way];
            for (int n = 0; n < WIDEST && at != NOWHERE; n++) {
                many++;
                at = views.next[at * WAYS + way];
            }
        }
        return many;
    }

    private int mostBeautiful() {
        int best = NOWHERE;
        int most = -1;
        for (int cell = 0; cell < CELLS; cell++) {
            int many = city.isOpen(cell) ? seenFrom(cell) : -1;
            if (many > most) {
                best = cell;
                most = many;
            }
        }
        return best;
    }

    /** A row of items of one lane; made once and begun anew, so that calls make no objects. */
    private static final class Sheet {
        static final int MISSING = -1;

        int lane = MISSING;
        int size = 0;
        final int[] items = new int[MOST_ITEMS];

        boolean isMissing() {
            return lane == MISSING;
        }

        void begin(int newLane, int n) {
            lane = newLane;
            size = n;
            Arrays.fill(items, 0);
        }

        int put(int i, int v) {
            int kept = v;
            if (lane == 0) {
                kept = (byte) v;
            } else if (lane == 1) {
                kept = (short) v;
            }
            items[i] = kept;
            return kept;
        }

        /** Compared by what is left, since i and n may be too big to be added. */
        boolean hasRow(int i, int n) {
            return i >= 0 && n >= 0 && i <= size && n <= size - i;
        }
    }

    /** The bytes of a text, and the token of it that is being looked at. */
    private static final class Tape {
        static final int ROOM = 400, MOST_FIGURES = 3;
        static final int END = 0, NAME = 1, NUMBER = 2, STOP = 3, NO_TOKEN = 4;

        final int[] bytes = new int[ROOM];
        int size = 0;
        int sort = END;
        int start = 0;
        int behind = 0;
        int value = 0;

        boolean hasRoom(int n) {
            return n <= ROOM - size;
        }

        void append(long w, int n) {
            for (int i = n - 1; i >= 0; i--) {
                bytes[size] = (int) (w >>> (8 * i)) & 255;
                size++;
            }
        }

        void rewind() {
            behind = 0;
            advance();
        }

        void advance() {
            while (behind < size && (bytes[behind] == 32 || bytes[behind] == 10)) {
                behind++;
            }
            start = behind;
            if (start >= size) {
                sort = END;
                return;
            }
            sort = sortOf(bytes[start]);
            behind++;
            while (behind < size && (sort == NAME || sort == NUMBER) && sortOf(bytes[behind]) == sort) {
                behind++;
            }
            if (sort == NUMBER) {
                readFigures();
            }
        }

        int length() {
            return behind - start;
        }

        boolean isWord(String word) {
            if (sort != NAME || length() != word.length()) {
                return false;
            }
            for (int i = 0; i < word.length(); i++) {
                if (bytes[start + i] != word.charAt(i)) {
                    return false;
                }
            }
            return true;
        }

        private void readFigures() {
            if (behind - start > MOST_FIGURES) {
                sort = NO_TOKEN;
                return;
            }
            value = 0;
            for (int i = start; i < behind; i++) {
                value = value * 10 + bytes[i] - '0';
            }
        }

        private static int sortOf(int b) {
            if (b >= 'a' && b <= 'z') {
                return NAME;
            }
            if (b >= '0' && b <= '9') {
                return NUMBER;
            }
            return b == ';' ? STOP : NO_TOKEN;
        }
    }

    /** Reads a city from the tape; each part answers whether it was without a fault. */
    private static final class Reader {
        static final int CANNOT_STAND = 1, NOT_AS_TOLD = 2, NO_ROOM = 3, MOST_PRICES = 6;

        private final Tape tape;
        private final City city;
        int faultNumber = 0;
        int faultPlace = 0;

        Reader(Tape tape, City city) {
            this.tape = tape;
            this.city = city;
        }

        boolean read() {
            city.clear();
            tape.rewind();
            if (!tape.isWord("row")) {
                return wrong(CANNOT_STAND);
            }
            return readRows() && readPrices() && readPeople() && (tape.sort == Tape.END || wrong(CANNOT_STAND));
        }

        private boolean wrong(int number) {
            faultNumber = number;
            faultPlace = tape.start;
            return false;
        }

        private boolean readRows() {
            for (int y = 0; y <= HIGHEST && tape.isWord("row"); y++) {
                if (y == HIGHEST) {
                    return wrong(NO_ROOM);
                }
                if (!readRow(y)) {
                    return false;
                }
            }
            return true;
        }

        private boolean readRow(int y) {
            tape.advance();
            if (!isRowOfCells()) {
                return wrong(CANNOT_STAND);
            }
            city.wide = tape.length();
            city.high = y + 1;
            for (int x = 0; x < city.wide; x++) {
                city.cells[x + WIDEST * y] = cellOf(tape.bytes[tape.start + x]);
            }
            return passStop(true);
        }

        private boolean isRowOfCells() {
            if (tape.sort != Tape.NAME || tape.length() > WIDEST) {
                return false;
            }
            if (city.high > 0 && tape.length() != city.wide) {
                return false;
            }
            for (int i = tape.start; i < tape.behind; i++) {
                if (cellOf(tape.bytes[i]) == NOWHERE) {
                    return false;
                }
            }
            return true;
        }

        private static int cellOf(int letter) {
            if (letter >= 'a' && letter < 'a' + OWNERS) {
                return FRONT + letter - 'a';
            }
            switch (letter) {
                case 'o': return OPEN;
                case 'w': return WALL;
                case 'm': return MIRROR;
                default: return NOWHERE;
            }
        }

        /** The token looked at is passed ahead of the stop, if it is still to be passed. */
        private boolean passStop(boolean tokenAhead) {
            if (tokenAhead) {
                tape.advance();
            }
            if (tape.sort != Tape.STOP) {
                return wrong(CANNOT_STAND);
            }
            tape.advance();
            return true;
        }

        private boolean readPrices() {
            for (int n = 0; n <= MOST_PRICES && tape.isWord("price"); n++) {
                if (n == MOST_PRICES) {
                    return wrong(NO_ROOM);
                }
                if (!readPrice()) {
                    return false;
                }
            }
            return true;
        }

        private boolean readPrice() {
            tape.advance();
            int owner = readNumber(OWNERS);
            int p = owner == NOWHERE ? NOWHERE : readNumber(HIGHEST_PRICE + 1);
            if (p == NOWHERE) {
                return false;
            }
            boolean free = tape.isWord("free");
            city.prices[owner] = p;
            city.free[owner] = free ? 1 : 0;
            return passStop(free);
        }

        /** The number that is passed, below a bound; NOWHERE behind a fault. */
        private int readNumber(int bound) {
            if (tape.sort != Tape.NUMBER) {
                wrong(CANNOT_STAND);
                return NOWHERE;
            }
            int number = tape.value;
            if (number >= bound) {
                wrong(NOT_AS_TOLD);
                return NOWHERE;
            }
            tape.advance();
            return number;
        }

        private boolean readPeople() {
            for (int n = 0; n <= MOST_PEOPLE && tape.isWord("person"); n++) {
                if (n == MOST_PEOPLE) {
                    return wrong(NO_ROOM);
                }
                if (!readPerson(n)) {
                    return false;
                }
            }
            return true;
        }

        private boolean readPerson(int n) {
            tape.advance();
            int place = readOpenCell();
            int home = place == NOWHERE ? NOWHERE : readOpenCell();
            if (home == NOWHERE) {
                return false;
            }
            int manner = tape.isWord("child") ? CHILD : tape.isWord("guided") ? GUIDED : USUAL;
            city.places[n] = place;
            city.homes[n] = home;
            city.manners[n] = manner;
            city.people = n + 1;
            return passStop(manner != USUAL);
        }

        private int readOpenCell() {
            int x = readNumber(city.wide);
            if (x == NOWHERE) {
                return NOWHERE;
            }
            if (tape.sort == Tape.NUMBER && !city.isOpen(x + WIDEST * tape.value)) {
                wrong(NOT_AS_TOLD);
                return NOWHERE;
            }
            int y = readNumber(city.high);
            return y == NOWHERE ? NOWHERE : x + WIDEST * y;
        }
    }

    /** A city with its people and all that was paid; one without cells is none. */
    private static final class City {
        int wide = 0;
        int high = 0;
        int people = 0;
        final int[] cells = new int[CELLS];
        final int[] prices = new int[OWNERS];
        final int[] free = new int[OWNERS];
        final int[] places = new int[MOST_PEOPLE];
        final int[] homes = new int[MOST_PEOPLE];
        final int[] manners = new int[MOST_PEOPLE];
        final int[] gone = new int[MOST_PEOPLE];
        final int[] paid = new int[MOST_PEOPLE * OWNERS];
        final int[] blinks = new int[MOST_PEOPLE * OWNERS];

        boolean isNone() {
            return wide == 0;
        }

        void clear() {
            wide = 0;
            high = 0;
            people = 0;
            Arrays.fill(prices, 0);
            Arrays.fill(free, 0);
            Arrays.fill(gone, 0);
            Arrays.fill(paid, 0);
            Arrays.fill(blinks, 0);
        }

        void become(City other) {
            wide = other.wide;
            high = other.high;
            people = other.people;
            System.arraycopy(other.cells, 0, cells, 0, CELLS);
            System.arraycopy(other.prices, 0, prices, 0, OWNERS);
            System.arraycopy(other.free, 0, free, 0, OWNERS);
            System.arraycopy(other.places, 0, places, 0, MOST_PEOPLE);
            System.arraycopy(other.homes, 0, homes, 0, MOST_PEOPLE);
            System.arraycopy(other.manners, 0, manners, 0, MOST_PEOPLE);
            System.arraycopy(other.gone, 0, gone, 0, MOST_PEOPLE);
            System.arraycopy(other.paid, 0, paid, 0, MOST_PEOPLE * OWNERS);
            System.arraycopy(other.blinks, 0, blinks, 0, MOST_PEOPLE * OWNERS);
        }

        boolean isCell(int cell) {
            return cell >= 0 && cell % WIDEST < wide && cell / WIDEST < high;
        }

        boolean isOpen(int cell) {
            return isCell(cell) && cells[cell] == OPEN;
        }

        boolean isMirror(int cell) {
            return isCell(cell) && cells[cell] == MIRROR;
        }

        int ownerOf(int cell) {
            return isCell(cell) && cells[cell] >= FRONT ? cells[cell] - FRONT : NOBODY;
        }

        int priceAt(int cell) {
            int owner = ownerOf(cell);
            return owner == NOBODY ? 0 : prices[owner];
        }

        /** The cell next to a cell in a way, or NOWHERE. */
        int beside(int cell, int way) {
            int x = cell % WIDEST + EAST[way];
            int y = cell / WIDEST + SOUTH[way];
            return x >= 0 && x < wide && y >= 0 && y < high ? x + WIDEST * y : NOWHERE;
        }

        int openBeside(int cell) {
            int many = 0;
            for (int way = 0; way < WAYS; way++) {
                if (isOpen(beside(cell, way))) {
                    many++;
                }
            }
            return many;
        }

        int fronts() {
            int many = 0;
            for (int cell = 0; cell < CELLS; cell++) {
                if (ownerOf(cell) != NOBODY) {
                    many++;
                }
            }
            return many;
        }

        int mirrors() {
            int many = 0;
            for (int cell = 0; cell < CELLS; cell++) {
                if (isMirror(cell)) {
                    many++;
                }
            }
            return many;
        }

        boolean hasFront(int owner) {
            for (int cell = 0; cell < CELLS; cell++) {
                if (ownerOf(cell) == owner) {
                    return true;
                }
            }
            return false;
        }

        /** Whether somebody is there, or has his home there. */
        boolean isTaken(int cell) {
            for (int n = 0; n < people; n++) {
                if (places[n] == cell || homes[n] == cell) {
                    return true;
                }
            }
            return false;
        }

        boolean pays(int person, int owner) {
            return manners[person] != CHILD || free[owner] == 0;
        }

        int paidBy(int person) {
            int sum = 0;
            for (int owner = 0; owner < OWNERS; owner++) {
                sum += paid[person * OWNERS + owner];
            }
            return sum;
        }

        int paidTo(int owner) {
            int sum = 0;
            for (int n = 0; n < people; n++) {
                sum += paid[n * OWNERS + owner];
            }
            return sum;
        }

        int unseeing(int owner) {
            int bits = 0;
            for (int n = 0; n < people; n++) {
                if (blinks[n * OWNERS + owner] == 0) {
                    bits |= 1 << n;
                }
            }
            return bits;
        }
    }

    /** What each open cell shows in each way; drawn once for a grid, since prices and people don't change it. */
    private static final class Views {
        final int[] next = new int[VIEWS];
        final int[] seen = new int[VIEWS];
        final int[] mirrors = new int[VIEWS];
        final int[] front = new int[VIEWS];

        void draw(City city) {
            for (int way = 0; way < WAYS; way++) {
                drawWay(city, way);
            }
            for (int cell = 0; cell < CELLS; cell++) {
                for (int way = 0; way < OPPOSITE; way++) {
                    reflect(city, cell * WAYS + way, cell * WAYS + way + OPPOSITE);
                }
            }
        }

        /** How many prices are paid for what is seen. */
        int times(int view) {
            return 1 + mirrors[view];
        }

        /** From the far end on, so that what the next cell shows is known already. */
        private void drawWay(City city, int way) {
            boolean farIsLast = EAST[way] + WIDEST * SOUTH[way] > 0;
            for (int i = 0; i < CELLS; i++) {
                int cell = farIsLast ? CELLS - 1 - i : i;
                int beside = city.beside(cell, way);
                boolean open = city.isOpen(beside);
                next[cell * WAYS + way] = open ? beside : NOWHERE;
                seen[cell * WAYS + way] = open ? seen[beside * WAYS + way] : beside;
            }
        }

        private void reflect(City city, int ahead, int behind) {
            int one = seen[ahead];
            int other = seen[behind];
            boolean mirrorAhead = city.isMirror(one);
            boolean mirrorBehind = city.isMirror(other);
            if (mirrorAhead && mirrorBehind) {
                settle(city, ahead, NOWHERE, 2);
                settle(city, behind, NOWHERE, 2);
            } else {
                settle(city, ahead, mirrorAhead ? other : one, mirrorAhead ? 1 : 0);
                settle(city, behind, mirrorBehind ? one : other, mirrorBehind ? 1 : 0);
            }
        }

        private void settle(City city, int view, int cell, int met) {
            seen[view] = cell;
            mirrors[view] = met;
            front[view] = city.ownerOf(cell);
        }
    }

    /**
     * The way home, from its end: what is left to pay and to go from each cell with each number of blind steps left.
     * A way's weight is its cost times LONGEST, more than any way's steps, and its steps: one number orders by both.
     */
    private static final class WayHome {
        private static final int LONGEST = 1024, FAR = 1 << 30;
        private static final int LAYERS = MOST_BLIND + 1, STATES = CELLS * LAYERS, MOST_TURNS = 1000000;

        private final City city;
        private Views views;
        private int[] prices;
        private final int[] due = new int[OWNERS + 1];
        private final int[] left = new int[STATES];
        private final int[] queue = new int[STATES];
        private final int[] queued = new int[STATES];
        private int waiting = 0;
        private int tail = 0;
        private int blind = 0;
        private int start = 0;

        WayHome(City city, Views views) {
            this.city = city;
            this.views = views;
            this.prices = city.prices;
        }

        void regard(Views newViews, int[] newPrices) {
            views = newViews;
            prices = newPrices;
        }

        /** Whether there is a way; the questions below are about the latest search that found one. */
        boolean search(int person, int blindSteps) {
            begin(person, blindSteps);
            int head = 0;
            for (int turn = 0; turn < MOST_TURNS && waiting > 0; turn++) {
                int state = queue[head];
                head = head + 1 < STATES ? head + 1 : 0;
                waiting--;
                queued[state] = 0;
                spread(state);
            }
            return left[start] != FAR;
        }

        int cost() {
            return left[start] / LONGEST;
        }

        int length() {
            return left[start] % LONGEST;
        }

        int stepAt(int k) {
            if (k >= length()) {
                return NONE;
            }
            int state = start;
            for (int n = 0; n < k && state != NOWHERE; n++) {
                state = after(state, firstStep(state));
            }
            return state == NOWHERE ? NONE : firstStep(state);
        }

        /** How many times somebody pays the price of an owner on his way without blind steps. */
        int timesPaid(int person, int owner) {
            if (!city.pays(person, owner) || !search(person, 0)) {
                return 0;
            }
            int times = 0;
            int state = start;
            int steps = length();
            for (int n = 0; n < steps && state != NOWHERE; n++) {
                int code = firstStep(state);
                int view = state % CELLS * WAYS + code % WAYS;
                times += views.front[view] == owner ? views.times(view) : 0;
                state = after(state, code);
            }
            return times;
        }

        private void begin(int person, int blindSteps) {
            blind = blindSteps;
            start = blind * CELLS + city.places[person];
            for (int owner = 0; owner < OWNERS; owner++) {
                due[owner] = city.pays(person, owner) ? prices[owner] : 0;
            }
            for (int state = 0; state < (blind + 1) * CELLS; state++) {
                left[state] = FAR;
                queued[state] = 0;
            }
            waiting = 0;
            tail = 0;
            for (int layer = 0; layer <= blind; layer++) {
                offer(layer * CELLS + city.homes[person], 0);
            }
        }

        private int weight(int view) {
            return due[views.front[view]] * (1 + views.mirrors[view]) * LONGEST + 1;
        }

        private void spread(int state) {
            int layer = state / CELLS;
            int cell = state % CELLS;
            for (int way = 0; way < WAYS; way++) {
                int from = views.next[cell * WAYS + (way ^ OPPOSITE)];
                if (from == NOWHERE) {
                    continue;
                }
                offer(layer * CELLS + from, left[state] + weight(from * WAYS + way));
                if (layer < blind) {
                    offer((layer + 1) * CELLS + from, left[state] + 1);
                }
            }
        }

        /** What is no lighter than the best way known from the start can't be a part of a better one. */
        private void offer(int state, int weight) {
            if (weight >= left[state] || weight >= left[start]) {
                return;
            }
            left[state] = weight;
            if (queued[state] == 0) {
                queued[state] = 1;
                queue[tail] = state;
                tail = tail + 1 < STATES ? tail + 1 : 0;
                waiting++;
            }
        }

        private int after(int state, int code) {
            int cell = views.next[state % CELLS * WAYS + code % WAYS];
            int layer = code < WAYS ? state / CELLS : state / CELLS - 1;
            return cell == NOWHERE || layer < 0 ? NOWHERE : layer * CELLS + cell;
        }

        /** The first step of the lightest ways from a state. */
        private int firstStep(int state) {
            for (int code = 0; code < 2 * WAYS; code++) {
                int then = after(state, code);
                if (then == NOWHERE || left[then] == FAR) {
                    continue;
                }
                int step = code < WAYS ? weight(state % CELLS * WAYS + code) : 1;
                if (left[then] + step == left[state]) {
                    return code;
                }
            }
            return 0;
        }
    }

    /** What owners earn by prices on trial, which begin as the city's. */
    private static final class Market {
        private static final int MOST_HALVINGS = 6;

        private final City city;
        private final WayHome wayHome;
        final int[] trial = new int[OWNERS];
        private final int[] times = new int[MOST_TRIED + 1];
        private final int[] total = new int[MOST_TRIED + 1];

        Market(City city, WayHome wayHome) {
            this.city = city;
            this.wayHome = wayHome;
        }

        void open(Views views) {
            System.arraycopy(city.prices, 0, trial, 0, OWNERS);
            wayHome.regard(views, trial);
        }

        int earnings(int owner) {
            int sum = 0;
            for (int person = 0; person < city.people; person++) {
                sum += wayHome.timesPaid(person, owner) * trial[owner];
            }
            return sum;
        }

        int bestPrice(int owner) {
            int told = trial[owner];
            Arrays.fill(total, 0);
            for (int person = 0; person < city.people; person++) {
                trial[owner] = 1;
                times[1] = wayHome.timesPaid(person, owner);
                trial[owner] = MOST_TRIED;
                times[MOST_TRIED] = wayHome.timesPaid(person, owner);
                fillBetween(person, owner, 1, MOST_TRIED, 0);
                for (int p = 1; p <= MOST_TRIED; p++) {
                    total[p] += times[p];
                }
            }
            trial[owner] = told;
            int best = 0;
            for (int p = 1; p <= MOST_TRIED; p++) {
                if (p * total[p] > best * total[best]) {
                    best = p;
                }
            }
            return best;
        }

        /** The round that rests, or NONE; the prices on trial are those of the last round then. */
        int compete() {
            for (int round = 1; round <= MOST_ROUNDS; round++) {
                boolean rests = true;
                for (int owner = 0; owner < OWNERS; owner++) {
                    int best = city.hasFront(owner) ? bestPrice(owner) : trial[owner];
                    rests = rests && best == trial[owner];
                    trial[owner] = best;
                }
                if (rests) {
                    return round;
                }
            }
            return NONE;
        }

        /**
         * Nobody pays an owner more often at a higher price: two ways, each the cheapest at its own price, would
         * otherwise be cheaper changed about. So what is alike at two prices is so at all between.
         */
        private void fillBetween(int person, int owner, int low, int high, int halvings) {
            if (high - low < 2 || halvings > MOST_HALVINGS) {
                return;
            }
            if (times[low] == times[high]) {
                for (int p = low + 1; p < high; p++) {
                    times[p] = times[low];
                }
                return;
            }
            int middle = (low + high) / 2;
            trial[owner] = middle;
            times[middle] = wayHome.timesPaid(person, owner);
            fillBetween(person, owner, low, middle, halvings + 1);
            fillBetween(person, owner, middle, high, halvings + 1);
        }
    }

    /** Asks of cells by their kinds, and the trace of the bodies that began. */
    private static final class Asks {
        static final int CELL = 0, OPEN_CELL = 1, WALL_CELL = 2, FRONT_CELL = 3, MIRROR_CELL = 4, DEAR_CELL = 5;
        static final int ASK_SIZE = 0, ASK_MARK = 1;
        static final int DEAR_FROM = 50, MOST_TRACED = 16, DEEPEST = 20;

        /** By kinds: the nearest kind that it is, too. */
        private static final int[] WIDER = {-1, 0, 0, 2, 2, 3};
        /** By kinds: the body that begins. */
        private static final int[] SIZE_BODY = {10, 14, 11, 12, 11, 13};
        private static final int[] MARK_BODY = {20, 20, 20, 21, 22, 23};

        private final City city;
        final int[] bodies = new int[MOST_TRACED];
        int traced = 0;

        Asks(City city) {
            this.city = city;
        }

        int kindOf(int cell) {
            if (city.ownerOf(cell) != NOBODY) {
                return city.priceAt(cell) >= DEAR_FROM ? DEAR_CELL : FRONT_CELL;
            }
            if (city.isMirror(cell)) {
                return MIRROR_CELL;
            }
            return city.isOpen(cell) ? OPEN_CELL : WALL_CELL;
        }

        boolean isA(int cell, int kind) {
            int own = kindOf(cell);
            for (int n = 0; n < KINDS && own > CELL && own != kind; n++) {
                own = WIDER[own];
            }
            return own == kind;
        }

        int answer(int cell, int what) {
            traced = 0;
            return begin(firstBody(cell, what), cell, 0);
        }

        private int firstBody(int cell, int what) {
            return what == ASK_SIZE ? SIZE_BODY[kindOf(cell)] : MARK_BODY[kindOf(cell)];
        }

        private int begin(int body, int cell, int depth) {
            if (depth > DEEPEST) {
                return 0;
            }
            if (traced < MOST_TRACED) {
                bodies[traced] = body;
                traced++;
            }
            int deeper = depth + 1;
            switch (body) {
                case 10: return city.openBeside(cell);
                case 11: return -begin(10, cell, deeper);
                case 12: return begin(11, cell, deeper) + begin(firstBody(cell, ASK_MARK), cell, deeper);
                case 13: return 2 * begin(12, cell, deeper);
                case 14: return begin(10, cell, deeper) - begin(firstBody(cell, ASK_MARK), cell, deeper);
                case 20: return cell;
                case 21: return begin(20, cell, deeper) + 100 * city.priceAt(cell);
                case 22: return begin(20, cell, deeper) + begin(firstBody(cell, ASK_SIZE), cell, deeper);
                case 23: return begin(21, cell, deeper) - 1000;
                default: return 0;
            }
        }
    }
}
