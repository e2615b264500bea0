import java.util.List;

/** Runs by draws of its own: each answer of the program is held against the Model's. */
public final class ModelTest {
    private static final int NONE = OutOfPlace.NONE;
    private static final int RUNS = 250;
    private static final int STEPS = 60;
    /** So few that Model may try all subsets of THE ROW. */
    private static final int SHORT = 11;
    private static final int ALL = 24;
    private static final int LONG_RUNS = 60;
    private static final Due due = new Due("ModelTest");
    private static final String[] SNIPS = {"a", "b", "q", "ab", "aa", "1", "9", "10", "0", "12345", ".", ".5", ".05", ".b1",
        ".b10", ".c9", " ", "  ", " y1990", " y0990", " y3000", " y19", " w3", " w0", " w9", ";", ";", ";", "A", "w", "y"};

    private static long drawn = 1;

    public static void main(String[] args) {
        for (int run = 0; run < 4000; run++) {
            texts(run);
        }
        for (int run = 0; run < RUNS; run++) {
            shelves("run " + run, SHORT);
        }
        for (int run = 0; run < LONG_RUNS; run++) {
            shelves("long run " + run, ALL);
        }
        due.end();
    }

    private static int draw(int n) {
        drawn = drawn * 6364136223846793005L + 1442695040888963407L;
        return (int) ((drawn >>> 33) % n);
    }

    private static void texts(int run) {
        OutOfPlace x = new OutOfPlace();
        Model m = new Model();
        for (int k = 0; k < 3; k++) {
            String text = draw(3) == 0 ? snips() : spoilt(goodText(1 + draw(12)));
            due.is("text " + text, Due.tell(x, text), m.books(text));
            due.is("fault of " + text, x.fault(), m.faultPlace);
            due.is("count after " + text, x.count(0), m.marks.size());
        }
        marksAndOrder("text run " + run, x, m);
    }

    private static String snips() {
        StringBuilder text = new StringBuilder();
        for (int n = draw(14); n >= 0; n--) {
            text.append(SNIPS[draw(SNIPS.length)]);
        }
        return text.toString();
    }

    private static String goodText(int books) {
        StringBuilder text = new StringBuilder();
        for (int k = 0; k < books; k++) {
            text.append(draw(3) == 0 ? " " : "").append((char) ('a' + draw(2)));
            text.append(draw(2) == 0 ? "" : "" + (char) ('a' + draw(2)));
            text.append(1 + draw(draw(2) == 0 ? 12 : 110));
            text.append(draw(2) == 0 ? "" : "." + figures());
            text.append(draw(2) == 0 ? "" : "." + (char) ('a' + draw(2)) + figures());
            text.append(draw(4) != 0 ? "" : " y" + (1000 + draw(2000)));
            text.append(draw(2) == 0 ? "" : " w" + (1 + draw(9)));
            text.append(draw(3) == 0 ? "  ;" : ";");
        }
        return text.toString();
    }

    private static String figures() {
        StringBuilder figures = new StringBuilder();
        for (int n = draw(3); n >= 0; n--) {
            figures.append(draw(2) == 0 ? 0 : draw(10));
        }
        return figures.toString();
    }

    private static String spoilt(String text) {
        int at = draw(text.length());
        switch (draw(6)) {
            case 0:
                return text.substring(0, at);
            case 1:
                return text.substring(0, at) + text.substring(at + 1);
            case 2:
                return text.substring(0, at) + "a15.; wy3".charAt(draw(9)) + text.substring(at);
            case 3:
                return text.substring(0, at) + "a15.; wy3".charAt(draw(9)) + text.substring(at + 1);
            default:
                return text;
        }
    }

    private static void marksAndOrder(String run, OutOfPlace x, Model m) {
        int n = m.marks.size();
        for (int b = 0; b < n; b++) {
            due.textIs(run + " mark " + b, Due.mark(x, b), m.marks.get(b));
            due.is(run + " width " + b, x.book(b, 2), m.thick.get(b));
        }
        for (int reading = 0; reading < 5; reading++) {
            List<Integer> order = m.order(reading);
            for (int i = 0; i < n; i++) {
                due.is(run + " order " + reading + " " + i, x.order(reading, i), order.get(i));
                int a = draw(n);
                due.is(run + " ahead " + a + " " + i, x.ahead(a, i, reading), m.ahead(a, i, reading) ? 1 : 0);
            }
        }
    }

    private static void shelves(String run, int books) {
        OutOfPlace x = new OutOfPlace();
        Model m = new Model();
        while (m.marks.size() < books) {
            String text = goodText(1);
            due.is("run text", Due.tell(x, text), m.books(text));
        }
        boolean narrow = draw(3) != 0;
        for (int s = 0; s < 8 && narrow; s++) {
            m.widths[s] = 1 + draw(books + 3);
            x.width(s, m.widths[s]);
        }
        if (books == ALL) {
            due.is(run + " shelve all", x.shelve((1 << ALL) - 1), m.shelve((1 << ALL) - 1));
        }
        for (int step = 0; step < STEPS; step++) {
            String name = run + " step " + step;
            change(name, x, m);
            allShelvesAlike(name, x, m);
            look(name, x, m);
        }
    }

    private static void change(String name, OutOfPlace x, Model m) {
        int b = draw(m.marks.size());
        int s = draw(8);
        switch (draw(16)) {
            case 0:
                setBook(name, x, m, b, s);
                break;
            case 1:
                boolean stood = m.shelfOf(b) != NONE;
                due.is(name + " take", x.take(b), stood ? m.shelfOf(b) : Model.NOT);
                m.shelves.forEach(shelf -> shelf.remove((Integer) b));
                break;
            case 2:
                int v = 1 + draw(20);
                boolean fits = m.used(m.shelves.get(s)) <= v;
                due.is(name + " width", x.width(s, v), fits ? m.widths[s] : Model.NOT);
                m.widths[s] = fits ? v : m.widths[s];
                break;
            case 3:
                due.is(name + " mend", x.mend(), m.mend());
                break;
            case 4:
                int left = draw(draw(2) == 0 ? 5 : 31);
                due.is(name + " lay", x.lay(left), m.lay(left));
                break;
            case 5:
            case 6:
                int r = 1 + draw(14);
                due.is(name + " fewest", x.make(s, r, false), m.marks.size() > SHORT ? m.make(s, r, false) : m.fewest(s, r));
                due.is(name + " make", x.make(s, r, true), m.make(s, r, true));
                break;
            default:
                changeMore(name, x, m, b);
        }
    }

    private static void setBook(String name, OutOfPlace x, Model m, int b, int s) {
        int at = draw(m.shelves.get(s).size() + 1);
        boolean goes = m.shelfOf(b) == NONE && m.left(s) >= m.thick.get(b);
        due.is(name + " set", x.set(b, s, at), goes ? 1 : Model.NOT);
        if (goes) {
            m.shelves.get(s).add(at, b);
        }
    }

    private static void changeMore(String name, OutOfPlace x, Model m, int b) {
        int set = draw(1 << m.marks.size());
        int i = draw(2);
        switch (draw(7)) {
            case 0:
                due.is(name + " shelve", x.shelve(set & draw(1 << SHORT)), m.shelve(set & lastDrawn(1 << SHORT)));
                break;
            case 1:
                due.is(name + " list", x.list(set), m.list);
                m.list = set;
                break;
            case 2:
                int reading = draw(5);
                int v = draw(3) == 0 ? 0 : draw(100);
                due.is(name + " habit", x.habit(reading, v), m.weights[reading]);
                m.weights[reading] = v;
                break;
            case 3:
                due.is(name + " keep", x.keep(i), 1);
                m.keep(i);
                break;
            case 4:
                due.is(name + " goBack", x.goBack(i), m.goBack(i));
                break;
            default:
                int by = draw(5);
                due.is(name + " put", x.put(b, by), m.shelfOf(b) == NONE ? m.put(b, by) : Model.NOT);
        }
    }

    /** The latest draw once more. */
    private static int lastDrawn(int n) {
        return (int) ((drawn >>> 33) % n);
    }

    private static void allShelvesAlike(String name, OutOfPlace x, Model m) {
        for (int s = 0; s < 8; s++) {
            StringBuilder want = new StringBuilder();
            for (int b : m.shelves.get(s)) {
                want.append(want.length() == 0 ? "" : " ").append(b);
            }
            due.shelfIs(x, s, want.toString());
            due.is(name + " room " + s, x.room(s), m.left(s));
            due.textIs(name + " guide " + s, Due.guide(x, s), m.guide(s));
        }
        due.is(name + " list", x.list(m.list), m.list);
        due.is(name + " seed", x.seed((int) m.seed), m.seed);
    }

    private static void look(String name, OutOfPlace x, Model m) {
        due.is(name + " wrong", x.wrong(), m.wrong());
        due.is(name + " pairs", x.tidy(0), m.pairs());
        due.is(name + " first wrong", x.tidy(1), m.firstWrong());
        int b = draw(m.marks.size());
        due.is(name + " guess", x.guess(b), m.guess(b));
        boolean stands = m.shelfOf(b) != NONE;
        due.is(name + " shelf of", x.book(b, 3), m.shelfOf(b));
        due.is(name + " place of", x.book(b, 4), stands ? m.shelves.get(m.shelfOf(b)).indexOf(b) : NONE);
        List<Integer> tour = m.search(b);
        due.is(name + " cost", x.search(b, NONE), stands ? Model.NOT : tour.get(0));
        for (int i = 0; i < 8; i++) {
            due.is(name + " likely", x.likely(b, i), stands ? Model.NOT : m.likely(b, i));
            int next = i + 1 < tour.size() ? tour.get(i + 1) : NONE;
            due.is(name + " search " + i, x.search(b, i), stands ? Model.NOT : next);
        }
        int standing = m.row().stream().mapToInt(k -> 1 << k).sum();
        due.is(name + " stock 0", x.stock(0), m.list & ~standing);
        due.is(name + " stock 1", x.stock(1), standing & ~m.list);
    }
}
