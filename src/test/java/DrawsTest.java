/** Promises 28 to 31. */
public final class DrawsTest {
    private static final int NONE = OutOfPlace.NONE;
    private static final int UNKNOWN = OutOfPlace.UNKNOWN;
    private static final int OUTSIDE = OutOfPlace.OUTSIDE;
    private static final int NOT = OutOfPlace.NOT;
    private static final Due due = new Due("DrawsTest");

    public static void main(String[] args) {
        seed();
        shelveDraws();
        shelveByReadings();
        shelveWhatCannotBe();
        shelveRefusals();
        imagesKeep();
        imagesAndWidths();
        imageRefusals();
        due.end();
    }

    private static void seed() {
        OutOfPlace x = new OutOfPlace();
        due.is("seed", x.seed(2147483647), 0);
        due.is("seed again", x.seed(0), 2147483647);
        due.is("-1", x.seed(-1), OUTSIDE);
        due.is("least", x.seed(Integer.MIN_VALUE), OUTSIDE);
        due.is("unchanged", x.seed(7), 0);
    }

    /** The seeds of the well-known generator: 0, 12345, 1406932606, 654583775. */
    private static void shelveDraws() {
        OutOfPlace x = Due.told("a1;a2;a3;");
        due.is("one", x.shelve(1), 1);
        due.is("a draw", x.seed(0), 12345);
        due.is("it stands: no draw", x.shelve(1), 0);
        due.is("no draw", x.seed(12345), 0);
        due.is("two", x.shelve(7), 2);
        due.is("two draws", x.seed(0), 654583775);
        due.is("empty set", x.shelve(0), 0);
        due.shelfIs(x, 0, "0 1 2");
        OutOfPlace y = Due.told("a1;");
        y.seed(2147483647);
        y.shelve(1);
        due.is("no overflow", y.seed(0), (2147483647L * 1103515245L + 12345L) % 2147483648L);
    }

    /** The second draw is 1406932606 / 65536 = 21468. */
    private static void shelveByReadings() {
        OutOfPlace x = Due.told("a1.9;a1.10;");
        x.set(0, 4, 0);
        weigh(x, 1, 1, 0);
        x.seed(12345);
        due.is("21468 by 2 leaves 0: READING 0", x.shelve(2), 1);
        due.shelfIs(x, 4, "1 0");
        x.take(1);
        weigh(x, 2, 1, 2);
        x.seed(12345);
        due.is("21468 by 5 leaves 3: READING 2", x.shelve(2), 1);
        due.shelfIs(x, 4, "1 0");
        x.take(1);
        weigh(x, 3, 1, 0);
        x.seed(12345);
        due.is("21468 by 4 leaves 0", x.shelve(2), 1);
        due.shelfIs(x, 4, "1 0");
        x.take(1);
        weigh(x, 3, 2, 0);
        x.seed(12345);
        due.is("21468 by 5 leaves 3: READING 1", x.shelve(2), 1);
        due.shelfIs(x, 4, "0 1");
        x.take(1);
        weigh(x, 0, 1, 0);
        x.seed(12345);
        due.is("READING 0 has no weight", x.shelve(2), 1);
        due.shelfIs(x, 4, "0 1");
    }

    private static void weigh(OutOfPlace x, int first, int second, int third) {
        int[] weights = {first, second, third, 0, 0};
        for (int reading = 0; reading < 5; reading++) {
            x.habit(reading, weights[reading]);
        }
    }

    private static void shelveWhatCannotBe() {
        OutOfPlace x = Due.told("a1 w3;a2;a3 w3;a4;");
        for (int s = 0; s < 8; s++) {
            x.width(s, s == 7 ? 4 : 1);
        }
        due.is("a1 goes, the others do not", x.shelve(15), 1);
        due.shelfIs(x, 7, "0");
        due.is("four draws all the same", x.seed(0), draws(4));
    }

    private static long draws(int n) {
        long seed = 0;
        for (int k = 0; k < n; k++) {
            seed = (seed * 1103515245L + 12345L) % 2147483648L;
        }
        return seed;
    }

    private static void shelveRefusals() {
        OutOfPlace x = Due.told("a1;a2;");
        due.is("bit 2", x.shelve(4), OUTSIDE);
        due.is("-1", x.shelve(-1), OUTSIDE);
        weigh(x, 0, 0, 0);
        due.is("all weights 0", x.shelve(3), NOT);
        due.is("of an empty set, too", x.shelve(0), NOT);
        due.is("OUTSIDE before NOT", x.shelve(4), OUTSIDE);
        due.is("no draw", x.seed(0), 0);
        due.is("none stands", x.count(1), 0);
    }

    private static void imagesKeep() {
        OutOfPlace x = Due.told("a1;a2;a3;");
        due.is("an empty image", x.keep(1), 1);
        Due.fill(x, 2, 2, 0);
        Due.fill(x, 5, 1);
        x.list(6);
        x.seed(99);
        due.is("keep", x.keep(0), 1);
        x.take(0);
        x.lay(0);
        x.list(1);
        x.seed(5);
        x.habit(0, 3);
        Due.tell(x, "b1;");
        x.put(3, 0);
        due.is("go back", x.goBack(0), 1);
        due.shelfIs(x, 0, "");
        due.shelfIs(x, 2, "2 0");
        due.shelfIs(x, 5, "1");
        due.is("a book told since does not stand", x.book(3, 3), NONE);
        due.is("the books stay", x.count(0), 4);
        due.is("the list", x.list(0), 6);
        due.is("the seed", x.seed(0), 99);
        due.is("habits stay", x.habit(0, 0), 3);
        due.is("the other image", x.goBack(1), 1);
        due.is("none stands", x.count(1), 0);
        due.is("again", x.goBack(0), 1);
        due.is("it is still kept", x.count(1), 3);
        x.keep(1);
        x.take(1);
        x.keep(0);
        x.goBack(1);
        due.shelfIs(x, 5, "1");
    }

    private static void imagesAndWidths() {
        OutOfPlace x = Due.told("a1;a2;");
        Due.fill(x, 6, 0, 1);
        x.keep(0);
        x.take(1);
        x.list(3);
        x.width(6, 3);
        due.is("wider than the shelf now", x.goBack(0), NOT);
        due.shelfIs(x, 6, "0");
        due.is("the list is as it was", x.list(3), 3);
        x.width(6, 4);
        due.is("as wide", x.goBack(0), 1);
        due.is("widths stay", x.room(6), 0);
    }

    private static void imageRefusals() {
        OutOfPlace x = new OutOfPlace();
        due.is("keep 2", x.keep(2), UNKNOWN);
        due.is("keep -1", x.keep(-1), UNKNOWN);
        due.is("goBack 2", x.goBack(2), UNKNOWN);
        due.is("goBack -1", x.goBack(-1), UNKNOWN);
        due.is("not kept", x.goBack(0), NOT);
        x.keep(0);
        due.is("the other was not kept", x.goBack(1), NOT);
        due.is("this one was", x.goBack(0), 1);
    }
}
