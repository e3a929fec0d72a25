import java.util.ArrayList;
import java.util.List;
import java.util.regex.Matcher;
import java.util.regex.Pattern;

/** Reads a text of a city for the model: all tokens first, by a pattern, then what may stand where. */
final class ModelText {
    int fault = 0;
    int place = 0;

    private static final Pattern TOKEN = Pattern.compile("[a-z]+|[0-9]+|[^ \n]");

    private final List<String> tokens = new ArrayList<>();
    private final List<Integer> places = new ArrayList<>();
    private int at = 0;

    private static final class Fault extends RuntimeException {
        private static final long serialVersionUID = 1;
        final int number;

        Fault(int number) {
            super("fault");
            this.number = number;
        }
    }

    ModelText(String text) {
        Matcher m = TOKEN.matcher(text);
        while (m.find()) {
            tokens.add(m.group());
            places.add(m.start());
        }
        tokens.add("");
        places.add(text.length());
    }

    /** Null: there is a fault. */
    Model.Town town() {
        Model.Town t = new Model.Town();
        try {
            rows(t);
            for (int n = 0; tokens.get(at).equals("price"); n++) {
                price(t, n);
            }
            while (tokens.get(at).equals("person")) {
                person(t);
            }
            must("");
        } catch (Fault f) {
            fault = f.number;
            place = places.get(at);
            return null;
        }
        return t;
    }

    private void must(String token) {
        if (!tokens.get(at).equals(token)) {
            throw new Fault(1);
        }
        if (at < tokens.size() - 1) {
            at++;
        }
    }

    private void rows(Model.Town t) {
        do {
            if (t.rows.size() == 8 && tokens.get(at).equals("row")) {
                throw new Fault(3);
            }
            must("row");
            String cells = tokens.get(at);
            if (!cells.matches("[owma-f]{1,10}") || t.rows.size() > 0 && cells.length() != t.rows.get(0).length()) {
                throw new Fault(1);
            }
            t.rows.add(cells);
            at++;
            must(";");
        } while (tokens.get(at).equals("row"));
    }

    private int number(int most) {
        String token = tokens.get(at);
        if (!token.matches("[0-9]{1,3}")) {
            throw new Fault(1);
        }
        if (Integer.parseInt(token) > most) {
            throw new Fault(2);
        }
        at++;
        return Integer.parseInt(token);
    }

    private void price(Model.Town t, int n) {
        if (n == 6) {
            throw new Fault(3);
        }
        at++;
        int owner = number(5);
        t.price[owner] = number(99);
        t.free[owner] = tokens.get(at).equals("free");
        at += t.free[owner] ? 1 : 0;
        must(";");
    }

    private int[] open(Model.Town t) {
        int x = number(t.rows.get(0).length() - 1);
        int y = number(t.rows.size() - 1);
        if (t.at(x, y) != 'o') {
            at--;
            throw new Fault(2);
        }
        return new int[] {x, y};
    }

    private void person(Model.Town t) {
        if (t.people.size() == 6) {
            throw new Fault(3);
        }
        at++;
        Model.Person p = new Model.Person();
        int[] where = open(t);
        int[] home = open(t);
        p.x = where[0];
        p.y = where[1];
        p.homeX = home[0];
        p.homeY = home[1];
        if (tokens.get(at).equals("child") || tokens.get(at).equals("guided")) {
            p.how = tokens.get(at);
            at++;
        }
        must(";");
        t.people.add(p);
    }
}
