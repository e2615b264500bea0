import java.util.function.ToIntFunction;

/**
 * REFUSALS of each call: of several the first in the order UNKNOWN, OUTSIDE, NOT, FULL, and nothing is
 * changed by it. Each is tried on an object of its own and held against a twin that was not called.
 */
public final class RefusalsTest {
    private static final int NONE = OutOfPlace.NONE;
    private static final int UNKNOWN = OutOfPlace.UNKNOWN;
    private static final int OUTSIDE = OutOfPlace.OUTSIDE;
    private static final int NOT = OutOfPlace.NOT;
    private static final int FULL = OutOfPlace.FULL;
    private static final int[] NO_BOOKS = {-1, 5, 23, 24, Integer.MIN_VALUE, Integer.MAX_VALUE};
    private static final int[] NO_SHELVES = {-1, 8, Integer.MIN_VALUE, Integer.MAX_VALUE};
    private static final int[] NO_READINGS = {-1, 5, Integer.MIN_VALUE, Integer.MAX_VALUE};
    private static final int[] NO_IMAGES = {-1, 2, Integer.MIN_VALUE, Integer.MAX_VALUE};
    private static final int[] NO_SETS = {32, 33, 1 << 24, -1, Integer.MIN_VALUE, Integer.MAX_VALUE};
    private static final Due due = new Due("RefusalsTest");

    public static void main(String[] args) {
        due.sentence("REFUSALS, of several the first in this order", "What is refused changes nothing");
        feedRefuses();
        booksRefuse();
        marksRefuse();
        shelvesRefuse();
        setAndPutRefuse();
        tidyingRefuses();
        roomRefuses();
        listRefuses();
        habitsRefuse();
        drawsRefuse();
        imagesRefuse();
        due.end();
    }

    /**
     * a3 and a1 fill SHELF 0, a2 fills SHELF 5, the others take no BOOK; a text waits, and there was a
     * FAULT; IMAGE 0 does not go any more, IMAGE 1 was not kept.
     */
    private static OutOfPlace crowded() {
        OutOfPlace x = Due.told("a1;a2;a3 w9;a10;b1;");
        Due.tell(x, "zz");
        Due.feed(x, "q7;q8 w3;");
        Due.fill(x, 0, 2, 0);
        Due.fill(x, 3, 1);
        x.list(3);
        x.seed(77);
        x.habit(2, 33);
        x.keep(0);
        x.take(1);
        Due.fill(x, 5, 1);
        x.list(5);
        x.seed(78);
        Due.widths(x, 11, 1, 1, 1, 1, 2);
        return x;
    }

    private static OutOfPlace weightless() {
        OutOfPlace x = crowded();
        Due.habits(x, 0, 0, 0, 0, 0);
        return x;
    }

    private static OutOfPlace fedUpTo600() {
        OutOfPlace x = crowded();
        Due.feed(x, Due.blanks(590));
        return x;
    }

    private static void refused(String name, int want, ToIntFunction<OutOfPlace> call) {
        onTwins(name, want, call, crowded(), crowded());
    }

    private static void onTwins(String name, int want, ToIntFunction<OutOfPlace> call, OutOfPlace x, OutOfPlace twin) {
        due.is(name, call.applyAsInt(x), want);
        due.textIs("what is so after " + name, all(x), all(twin));
    }

    /** All that can be found out; the object is used up by it. */
    private static String all(OutOfPlace x) {
        StringBuilder all = new StringBuilder(Due.state(x));
        all.append(" text ").append(x.books()).append(' ').append(x.fault());
        for (int b = 0; b < x.count(0); b++) {
            all.append(' ').append(Due.mark(x, b)).append(" w").append(x.book(b, 2));
        }
        for (int i = 0; i < 2; i++) {
            Due.widths(x, 60, 60, 60, 60, 60, 60, 60, 60);
            all.append(" image ").append(x.goBack(i)).append(' ').append(Due.state(x));
        }
        return all.toString();
    }

    private static void feedRefuses() {
        for (int n : new int[] {0, 9, -1, Integer.MIN_VALUE, Integer.MAX_VALUE}) {
            refused("feed " + n, OUTSIDE, x -> x.feed(n, -1L));
            onTwins("OUTSIDE before FULL " + n, OUTSIDE, x -> x.feed(n, -1L), fedUpTo600(), fedUpTo600());
        }
        for (int n = 2; n <= 8; n++) {
            int bytes = n;
            onTwins("feed " + n + " of full", FULL, x -> x.feed(bytes, -1L), fedUpTo600(), fedUpTo600());
        }
    }

    private static void booksRefuse() {
        for (int b : NO_BOOKS) {
            refused("book " + b, UNKNOWN, x -> x.book(b, 0));
            refused("book UNKNOWN before OUTSIDE " + b, UNKNOWN, x -> x.book(b, 5));
            refused("take " + b, UNKNOWN, x -> x.take(b));
            refused("guess " + b, UNKNOWN, x -> x.guess(b));
        }
        refused("book what 5", OUTSIDE, x -> x.book(0, 5));
        refused("book what -1", OUTSIDE, x -> x.book(0, -1));
        refused("count 4", OUTSIDE, x -> x.count(4));
        refused("count -1", OUTSIDE, x -> x.count(-1));
        refused("take", NOT, x -> x.take(3));
        refused("guess", NOT, x -> x.guess(4));
    }

    private static void marksRefuse() {
        for (int b : NO_BOOKS) {
            refused("mark " + b, UNKNOWN, x -> x.mark(b, 0));
            refused("length of mark " + b, UNKNOWN, x -> x.mark(b, NONE));
            refused("ahead a " + b, UNKNOWN, x -> x.ahead(b, 0, 0));
            refused("ahead b " + b, UNKNOWN, x -> x.ahead(0, b, 0));
        }
        for (int reading : NO_READINGS) {
            refused("ahead reading " + reading, UNKNOWN, x -> x.ahead(0, 1, reading));
            refused("order " + reading, UNKNOWN, x -> x.order(reading, 0));
        }
    }

    private static void shelvesRefuse() {
        for (int s : NO_SHELVES) {
            refused("width of " + s, UNKNOWN, x -> x.width(s, 5));
            refused("width UNKNOWN before OUTSIDE " + s, UNKNOWN, x -> x.width(s, 61));
            refused("shelf " + s, UNKNOWN, x -> x.shelf(s, 0));
            refused("room " + s, UNKNOWN, x -> x.room(s));
            refused("guide " + s, UNKNOWN, x -> x.guide(s, 0));
        }
        for (int v : new int[] {0, 61, -1, Integer.MIN_VALUE, Integer.MAX_VALUE}) {
            refused("width " + v, OUTSIDE, x -> x.width(5, v));
        }
        refused("width of books", NOT, x -> x.width(0, 10));
        refused("width of one book", NOT, x -> x.width(5, 1));
    }

    private static void setAndPutRefuse() {
        for (int b : NO_BOOKS) {
            refused("set " + b, UNKNOWN, x -> x.set(b, 0, 0));
            refused("set UNKNOWN before OUTSIDE " + b, UNKNOWN, x -> x.set(b, 0, 9));
            refused("put " + b, UNKNOWN, x -> x.put(b, 0));
        }
        for (int s : NO_SHELVES) {
            refused("set on " + s, UNKNOWN, x -> x.set(3, s, 0));
            refused("set UNKNOWN before all others " + s, UNKNOWN, x -> x.set(0, s, -1));
        }
        for (int reading : NO_READINGS) {
            refused("put by " + reading, UNKNOWN, x -> x.put(3, reading));
            refused("put UNKNOWN before NOT " + reading, UNKNOWN, x -> x.put(0, reading));
        }
        for (int i : new int[] {3, -1, Integer.MIN_VALUE, Integer.MAX_VALUE}) {
            refused("set at " + i, OUTSIDE, x -> x.set(3, 0, i));
            refused("set OUTSIDE before NOT " + i, OUTSIDE, x -> x.set(0, 0, i));
        }
        refused("set: no room", NOT, x -> x.set(3, 0, 2));
        refused("set: it stands", NOT, x -> x.set(0, 0, 0));
        refused("put: no room", NOT, x -> x.put(3, 0));
        refused("put by figures: no room", NOT, x -> x.put(3, 4));
        refused("put: it stands", NOT, x -> x.put(2, 0));
    }

    private static void tidyingRefuses() {
        for (int what : new int[] {-1, 2, Integer.MIN_VALUE, Integer.MAX_VALUE}) {
            refused("tidy " + what, OUTSIDE, x -> x.tidy(what));
        }
        refused("mend", NOT, x -> x.mend());
    }

    private static void roomRefuses() {
        for (int s : new int[] {-1, 31, Integer.MIN_VALUE, Integer.MAX_VALUE}) {
            refused("lay OUTSIDE before NOT " + s, OUTSIDE, x -> x.lay(s));
        }
        for (int s = 0; s <= 30; s++) {
            int left = s;
            refused("lay " + s, NOT, x -> x.lay(left));
        }
        for (int s : NO_SHELVES) {
            refused("make on " + s, UNKNOWN, x -> x.make(s, 1, true));
            refused("make UNKNOWN before OUTSIDE " + s, UNKNOWN, x -> x.make(s, 31, false));
        }
        for (int r : new int[] {0, 31, -1, Integer.MIN_VALUE, Integer.MAX_VALUE}) {
            refused("make OUTSIDE before NOT " + r, OUTSIDE, x -> x.make(0, r, true));
        }
        refused("make", NOT, x -> x.make(0, 1, true));
        refused("make, does not", NOT, x -> x.make(0, 1, false));
        refused("make on the other", NOT, x -> x.make(5, 2, true));
        refused("make on an empty shelf", NOT, x -> x.make(7, 2, true));
    }

    private static void listRefuses() {
        for (int set : NO_SETS) {
            refused("list " + set, OUTSIDE, x -> x.list(set));
        }
        for (int what : new int[] {-1, 2, Integer.MIN_VALUE, Integer.MAX_VALUE}) {
            refused("stock " + what, OUTSIDE, x -> x.stock(what));
        }
    }

    private static void habitsRefuse() {
        for (int reading : NO_READINGS) {
            refused("habit of " + reading, UNKNOWN, x -> x.habit(reading, 5));
            refused("habit UNKNOWN before OUTSIDE " + reading, UNKNOWN, x -> x.habit(reading, 100));
        }
        for (int v : new int[] {-1, 100, Integer.MIN_VALUE, Integer.MAX_VALUE}) {
            refused("habit " + v, OUTSIDE, x -> x.habit(0, v));
        }
        for (int b : NO_BOOKS) {
            refused("likely " + b, UNKNOWN, x -> x.likely(b, 0));
            refused("search " + b, UNKNOWN, x -> x.search(b, 0));
        }
        for (int s : NO_SHELVES) {
            refused("likely on " + s, UNKNOWN, x -> x.likely(3, s));
            refused("likely UNKNOWN before NOT " + s, UNKNOWN, x -> x.likely(0, s));
        }
        refused("likely", NOT, x -> x.likely(1, 0));
        refused("search", NOT, x -> x.search(1, NONE));
    }

    private static void drawsRefuse() {
        for (int v : new int[] {-1, Integer.MIN_VALUE}) {
            refused("seed " + v, OUTSIDE, x -> x.seed(v));
        }
        for (int set : NO_SETS) {
            refused("shelve " + set, OUTSIDE, x -> x.shelve(set));
            onTwins("shelve OUTSIDE before NOT " + set, OUTSIDE, x -> x.shelve(set), weightless(), weightless());
        }
        for (int set : new int[] {0, 8, 31}) {
            onTwins("shelve " + set, NOT, x -> x.shelve(set), weightless(), weightless());
        }
    }

    private static void imagesRefuse() {
        for (int i : NO_IMAGES) {
            refused("keep " + i, UNKNOWN, x -> x.keep(i));
            refused("goBack " + i, UNKNOWN, x -> x.goBack(i));
        }
        refused("goBack: wider", NOT, x -> x.goBack(0));
        refused("goBack: not kept", NOT, x -> x.goBack(1));
    }
}
