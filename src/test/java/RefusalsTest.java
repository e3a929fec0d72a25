import java.lang.reflect.Method;
import java.util.ArrayList;
import java.util.Arrays;
import java.util.LinkedHashMap;
import java.util.List;
import java.util.Map;

/**
 * Every call with the numbers at and beyond its edges, in several states: it never throws, it answers as the model does,
 * and what is refused or found, or only tells something, leaves all that can be seen of the object as it was, but for status().
 */
public final class RefusalsTest {
    private static final Due due = new Due("RefusalsTest");
    private static final int LEAST = Integer.MIN_VALUE, GREATEST = Integer.MAX_VALUE;

    private static final int[] SHEETS = {-1, 0, 1, 3, 7, 8, LEAST, GREATEST};
    private static final int[] PLACES = {LEAST, -1, 0, 2, 3, GREATEST};
    private static final int[] PEOPLE = {LEAST, -1, 0, 1, 2, 3, 5, 6, GREATEST};
    private static final int[] CELLS = {LEAST, -11, -10, -2, -1, 0, 2, 3, 4, 9, 10, 11, 13, 20, 22, 30, 79, 80, GREATEST};
    private static final int[] OWNERS = {LEAST, -2, -1, 0, 5, 6, GREATEST};
    private static final int[] FEW = {LEAST, -1, 0, 1, 2, GREATEST};

    private static final String TOWN = "row oooa;row mwoo;row oobo;price 0 7 free;price 1 60;"
            + "person 0 0 2 2;person 1 0 3 1 child;person 0 2 3 1 guided;";

    /** By calls: the numbers that stand at each of its places. */
    private static final Map<String, int[][]> EDGES = new LinkedHashMap<>();
    /** Calls that change nothing, whatever they answer. */
    private static final List<String> TELLING = List.of("fault", "look", "person", "got", "witnesses", "home", "nothing", "beauty",
            "earns", "rivals", "wall", "kind", "trace", "count", "status");

    static {
        EDGES.put("sheet", new int[][] {SHEETS, {LEAST, -1, 0, 2, 3, GREATEST}, {LEAST, -1, 0, 40, 41, GREATEST}});
        EDGES.put("set", new int[][] {SHEETS, PLACES, {0, 256, LEAST}});
        EDGES.put("copy", new int[][] {{-1, 0, 1, 2, 7, 8}, PLACES, {-1, 0, 1, 2, 7, 8}, PLACES, {LEAST, -1, 0, 1, 3, 4, GREATEST}});
        EDGES.put("drop", new int[][] {SHEETS});
        EDGES.put("feed", new int[][] {{0, LEAST, GREATEST}, {LEAST, -1, 0, 1, 7, 8, 9, GREATEST}});
        EDGES.put("city", new int[][] {});
        EDGES.put("fault", new int[][] {});
        EDGES.put("look", new int[][] {CELLS, {LEAST, -1, 0, 2, 7, 8, GREATEST}, {LEAST, -1, 0, 1, 2, 3, GREATEST}});
        EDGES.put("price", new int[][] {OWNERS, {LEAST, -1, 0, 99, 100, GREATEST}});
        EDGES.put("step", new int[][] {PEOPLE, {LEAST, -1, 0, 7, 8, 15, 16, GREATEST}});
        EDGES.put("walk", new int[][] {PEOPLE, SHEETS, PLACES, {LEAST, -1, 0, 1, 3, 4, 40, 41, GREATEST}});
        EDGES.put("person", new int[][] {PEOPLE, {LEAST, LEAST + 12, LEAST + 22, -1, 0, 4, 5, 9, 10, 15, 16, 19, 20, 25, 26, GREATEST}});
        EDGES.put("got", new int[][] {OWNERS});
        EDGES.put("witnesses", new int[][] {OWNERS});
        EDGES.put("home", new int[][] {PEOPLE, {LEAST, -1, 0, 1, 5, 6, GREATEST}, {LEAST, -3, -2, -1, 0, 3, 80, GREATEST}});
        EDGES.put("nothing", new int[][] {PEOPLE});
        EDGES.put("beauty", new int[][] {CELLS});
        EDGES.put("earns", new int[][] {OWNERS, FEW});
        EDGES.put("rivals", new int[][] {OWNERS});
        EDGES.put("wall", new int[][] {CELLS, OWNERS});
        EDGES.put("image", new int[][] {FEW});
        EDGES.put("restore", new int[][] {FEW});
        EDGES.put("kind", new int[][] {CELLS});
        EDGES.put("as", new int[][] {CELLS, {LEAST, -1, 0, 1, 2, 3, 4, 5, 6, GREATEST}});
        EDGES.put("ask", new int[][] {CELLS, FEW});
        EDGES.put("trace", new int[][] {{LEAST, -1, 0, 3, 6, 7, 15, 16, GREATEST}});
        EDGES.put("count", new int[][] {{LEAST, -1, 0, 1, 2, 3, 4, 5, 6, 7, GREATEST}});
        EDGES.put("status", new int[][] {});
    }

    /** Makes PricedLooks and the model alike, and calls them by names. */
    private static final class Subject {
        private static final Map<String, Method> OF_CLASS = methods(PricedLooks.class);
        private static final Map<String, Method> OF_MODEL = methods(Model.class);

        private final Object it;
        private final Map<String, Method> methods;

        Subject(boolean model) {
            it = model ? new Model() : new PricedLooks();
            methods = model ? OF_MODEL : OF_CLASS;
        }

        private static Map<String, Method> methods(Class<?> of) {
            Map<String, Method> found = new LinkedHashMap<>();
            for (Method m : of.getDeclaredMethods()) {
                boolean numbers = Arrays.stream(m.getParameterTypes()).allMatch(t -> t == int.class || t == long.class);
                if (m.getReturnType() == int.class && numbers && EDGES.containsKey(m.getName())) {
                    found.put(m.getName(), m);
                }
            }
            return found;
        }

        int call(String name, int... numbers) throws Exception {
            Object[] all = new Object[numbers.length];
            for (int i = 0; i < numbers.length; i++) {
                all[i] = numbers[i];
            }
            if (name.equals("feed")) {
                all[0] = (long) numbers[0];
            }
            return (Integer) methods.get(name).invoke(it, all);
        }

        void feed(String text) throws Exception {
            for (char c : text.toCharArray()) {
                call("feed", c, 1);
            }
        }

        void items(int sheet, int lane, int... items) throws Exception {
            call("sheet", sheet, lane, items.length);
            for (int i = 0; i < items.length; i++) {
                call("set", sheet, i, items[i]);
            }
        }
    }

    private static final String[] STATES = {"new", "no city, but sheets and a tape", "a town", "a small city, a full tape"};

    private static Subject inState(int state, boolean model) throws Exception {
        Subject s = new Subject(model);
        if (state == 1) {
            s.items(0, 0, 1, 2, 3);
            s.items(1, 2, 7, 16, -1);
            s.call("drop", 7);
            s.feed(" row o ");
        }
        if (state == 2) {
            s.feed("row o;price 6 0;");
            s.call("city");
            s.feed(TOWN);
            s.call("city");
            s.call("image", 0);
            s.call("step", 0, 2);
            s.call("step", 1, 2);
            s.call("step", 2, 9);
            s.items(0, 0, 2, 9, 4);
            s.items(1, 0, 6, -1, 16);
            s.items(2, 2, 1, 2, 3, 4);
            s.items(3, 2);
            s.call("ask", 3, 0);
            s.call("as", 0, 4);
            s.feed("row om;price 2");
        }
        if (state == 3) {
            s.feed(TOWN);
            s.call("city");
            s.call("image", 1);
            s.feed("row o;person 0 0 0 0 guided;");
            s.call("city");
            s.call("image", 0);
            s.feed("row oo;" + " ".repeat(393));
        }
        return s;
    }

    public static void main(String[] args) throws Exception {
        for (int state = 0; state < STATES.length; state++) {
            int[] before = all(inState(state, false));
            due.is(STATES[state] + ": what can be seen is so of the model", 0, Arrays.compare(before, all(inState(state, true))));
            for (Map.Entry<String, int[][]> call : EDGES.entrySet()) {
                Subject[] model = {inState(state, true)};
                each(state, call.getKey(), call.getValue(), new int[call.getValue().length], 0, before, model);
            }
        }
        due.end();
    }

    private static void each(int state, String name, int[][] edges, int[] numbers, int place, int[] before, Subject[] model)
            throws Exception {
        if (place < edges.length) {
            for (int number : edges[place]) {
                numbers[place] = number;
                each(state, name, edges, numbers, place + 1, before, model);
            }
            return;
        }
        if (due.wrongs() > 20) {
            return;
        }
        String call = STATES[state] + ": " + name + Arrays.toString(numbers);
        Subject x = inState(state, false);
        int answer = x.call(name, numbers);
        due.is(call, model[0].call(name, numbers), answer);
        boolean refused = answer <= Due.BAD && answer >= Due.STORE;
        if (!refused && !TELLING.contains(name)) {
            model[0] = inState(state, true);
            return;
        }
        int[] behind = all(x);
        boolean finding = answer <= Due.NULL && answer >= Due.STORE;
        due.is(call + ", status", finding ? -1000010 - answer : before[0], behind[0]);
        behind[0] = before[0];
        due.is(call + " changes nothing", -1, Arrays.mismatch(before, behind));
    }

    /** All that can be seen of an object, status first; it is of no use behind it. */
    private static int[] all(Subject s) throws Exception {
        List<Integer> seen = new ArrayList<>();
        seen.add(s.call("status"));
        seen.add(s.call("fault"));
        for (int i = 0; i < 8; i++) {
            seen.add(s.call("trace", i));
            seen.add(s.call("count", i));
        }
        city(s, seen);
        sheets(s, seen);
        seen.add(s.call("city"));
        seen.add(s.call("count", 1));
        for (int k = 0; k < 2; k++) {
            seen.add(s.call("restore", k));
            city(s, seen);
        }
        return seen.stream().mapToInt(n -> n).toArray();
    }

    private static void city(Subject s, List<Integer> seen) throws Exception {
        for (int cell = 0; cell < 24; cell++) {
            seen.add(s.call("kind", cell));
            seen.add(s.call("look", cell, 2, 1));
        }
        for (int person = 0; person < 3; person++) {
            for (int what = 0; what < 26; what += what == 4 ? 6 : what == 11 ? 9 : 1) {
                seen.add(s.call("person", person, what));
            }
            seen.add(s.call("home", person, 0, 0));
            seen.add(s.call("step", person, 2));
        }
        for (int owner = 0; owner < 6; owner++) {
            seen.add(s.call("got", owner));
            seen.add(s.call("witnesses", owner));
            seen.add(s.call("price", owner, 1));
        }
    }

    /** Items are seen by where they lead one who is guided; a lane by what is left of a great number. */
    private static void sheets(Subject s, List<Integer> seen) throws Exception {
        for (int sheet = 0; sheet < 8; sheet++) {
            for (int i = 0; i < 4; i++) {
                seen.add(s.call("walk", 2, sheet, i, 1));
                seen.add(s.call("person", 2, 0));
            }
            seen.add(s.call("set", sheet, 0, 70000));
            seen.add(s.call("drop", sheet));
        }
    }
}
