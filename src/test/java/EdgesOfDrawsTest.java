/** Each sentence that names an edge of THE SEED, SHELVING and IMAGES: "Terms" 4, promises 28 to 31. */
public final class EdgesOfDrawsTest {
    private static final int NONE = OutOfPlace.NONE;
    private static final int UNKNOWN = OutOfPlace.UNKNOWN;
    private static final int OUTSIDE = OutOfPlace.OUTSIDE;
    private static final int NOT = OutOfPlace.NOT;
    private static final int LEAST = Integer.MIN_VALUE;
    private static final int GREATEST = Integer.MAX_VALUE;
    private static final int ALL_24 = (1 << 24) - 1;
    private static final Due due = new Due("EdgesOfDrawsTest");

    public static void main(String[] args) {
        boundsOfTheSeed();
        seedOfEachDraw();
        leftOverBy2ToThe31();
        drawOfN();
        firstReadingAbove();
        oneWeightAlone();
        byNumbers();
        thatDoNotStand();
        ifItCanBe();
        howMany();
        shelveOutside();
        shelveAllWeights0();
        imagesThereAre();
        notKept();
        keptEmpty();
        whatIsKept();
        whatIsNotKept();
        imagesApart();
        keptAgain();
        goBackAgain();
        booksToldSince();
        widerThanAShelf();
        widthsStay();
        due.end();
    }

    private static long next(long seed) {
        return (seed * 1103515245L + 12345L) % 2147483648L;
    }

    /** A SEED after which the DRAW of n is what is wanted, and the one behind it, too. */
    private static int seedFor(int n, int first, int second) {
        for (int seed = 0; seed < 1000000; seed++) {
            long one = next(seed);
            if (one / 65536 % n == first && (second == NONE || next(one) / 65536 % n == second)) {
                return seed;
            }
        }
        return NONE;
    }

    /** BOOK 0 is missing; by READINGS 0 to 4 it is PUT on SHELVES 5, 4, 3, 2, 1. */
    private static OutOfPlace fiveWays() {
        OutOfPlace x = Due.told("ab10.2.c2;ab9;aa11;ab10.2.c10;ab10.10;b1;");
        for (int b = 1; b < 6; b++) {
            x.set(b, b, 0);
        }
        return x;
    }

    private static void boundsOfTheSeed() {
        due.sentence("THE SEED becomes v (0 .. 2147483647): what it was. OUTSIDE.");
        OutOfPlace x = new OutOfPlace();
        due.is("greatest", x.seed(2147483647), 0);
        due.is("least", x.seed(0), 2147483647);
        due.is("one", x.seed(1), 0);
        for (int v : new int[] {-1, -2147483647, LEAST}) {
            due.is("seed " + v, x.seed(v), OUTSIDE);
        }
        due.is("as it was", x.seed(1), 1);
    }

    private static void seedOfEachDraw() {
        due.sentence("each DRAW it becomes it times 1103515245 and 12345");
        OutOfPlace x = Due.told(Due.row(24, 1));
        due.is("one", x.shelve(1), 1);
        due.is("from 0", x.seed(0), 12345);
        due.is("23", x.shelve(ALL_24), 23);
        long seed = 0;
        for (int k = 0; k < 23; k++) {
            seed = next(seed);
        }
        due.is("after 23", x.seed(0), seed);
        due.is("none is missing: no DRAW", x.shelve(ALL_24), 0);
        due.is("no DRAW", x.seed(0), 0);
    }

    private static void leftOverBy2ToThe31() {
        due.sentence("left over by 2 to the 31");
        int[] seeds = {1, 2, 65535, 65536, 1073741823, 1073741824, 2147483646, 2147483647};
        long[] then = {1103527590L, 2207042835L - 2147483648L};
        for (int k = 0; k < seeds.length; k++) {
            OutOfPlace x = Due.told("a1;");
            x.seed(seeds[k]);
            x.shelve(1);
            due.is("after " + seeds[k], x.seed(0), k < then.length ? then[k] : next(seeds[k]));
        }
        OutOfPlace y = Due.told("a1;");
        y.seed(2147483647);
        y.shelve(1);
        due.is("12345 less 1103515245, and 2 to the 31", y.seed(0), 1043980748L);
    }

    private static void drawOfN() {
        due.sentence("the DRAW of n is it / 65536, left over by n");
        OutOfPlace x = fiveWays();
        Due.habits(x, 99, 99, 99, 99, 99);
        long seed = 0;
        for (int k = 0; k < 150; k++) {
            seed = next(seed);
            due.is("shelve " + k, x.shelve(1), 1);
            due.is("where by " + seed, x.take(0), 5 - seed / 65536 % 495 / 99);
        }
        due.is("150 draws", x.seed(0), seed);
    }

    private static void firstReadingAbove() {
        due.sentence("the first READING with which weights so far are above it");
        int[] reading = {0, 0, 0, 1, 1, 3, 3, 3, 3, 4};
        for (int drawn = 0; drawn < 10; drawn++) {
            OutOfPlace x = fiveWays();
            Due.habits(x, 3, 2, 0, 4, 1);
            x.seed(seedFor(10, drawn, NONE));
            due.is("shelve by " + drawn, x.shelve(1), 1);
            due.is("where by " + drawn, x.book(0, 3), 5 - reading[drawn]);
        }
    }

    private static void oneWeightAlone() {
        due.sentence("a DRAW of all weights together", "one alone is not 0");
        for (int reading = 0; reading < 5; reading++) {
            for (int weight : new int[] {1, 99}) {
                OutOfPlace x = fiveWays();
                Due.habits(x, 0, 0, 0, 0, 0);
                x.habit(reading, weight);
                for (int k = 0; k < 20; k++) {
                    x.shelve(1);
                    due.is("weight " + weight + " of " + reading, x.take(0), 5 - reading);
                }
            }
        }
    }

    private static void byNumbers() {
        due.sentence("BOOKS of a SET that do not stand, by numbers: a DRAW");
        for (int first = 0; first < 2; first++) {
            OutOfPlace x = Due.told("a9;b1;a10;a11;");
            Due.fill(x, 2, 0);
            Due.fill(x, 5, 1);
            Due.habits(x, 1, 0, 0, 0, 1);
            x.seed(seedFor(2, first, 1 - first));
            due.is("both", x.shelve(4 + 8), 2);
            due.is("book 2 by the first draw", x.book(2, 3), first == 0 ? 5 : 2);
            due.is("book 3 by the second", x.book(3, 3), first == 0 ? 2 : 5);
        }
    }

    private static void thatDoNotStand() {
        due.sentence("BOOKS of a SET that do not stand");
        OutOfPlace x = fiveWays();
        due.is("those that stand", x.shelve(62), 0);
        due.is("no DRAW", x.seed(0), 0);
        due.is("an empty set", x.shelve(0), 0);
        due.is("no DRAW", x.seed(0), 0);
        due.is("one of six", x.shelve(63), 1);
        due.is("one DRAW", x.seed(0), 12345);
        for (int b = 1; b < 6; b++) {
            due.is("where it was", x.book(b, 3), b);
        }
        x.take(0);
        x.take(1);
        due.is("not of the set", x.shelve(1 << 1), 1);
        due.is("it does not stand", x.book(0, 3), NONE);
    }

    private static void ifItCanBe() {
        due.sentence("PUT by it (if it can be): how many are");
        OutOfPlace x = Due.told("a1 w3;a2 w2;a3 w3;a4 w1;");
        Due.widths(x, 1, 1, 1, 1, 1, 1, 1, 4);
        Due.habits(x, 1, 0, 0, 0, 0);
        due.is("a1 and a4", x.shelve(15), 2);
        due.shelvesAre(x, "", "", "", "", "", "", "", "0 3");
        due.is("four draws all the same", x.seed(0), next(next(next(next(0)))));
        due.is("neither can be", x.shelve(15), 0);
        due.is("two draws", x.seed(0), next(next(0)));
        due.shelvesAre(x, "", "", "", "", "", "", "", "0 3");
    }

    private static void howMany() {
        due.sentence("SHELVING of a SET: how many");
        OutOfPlace x = Due.told(Due.row(24, 9));
        for (int s = 0; s < 8; s++) {
            x.width(s, 60);
        }
        Due.habits(x, 1, 0, 0, 0, 0);
        due.is("all", x.shelve(ALL_24), 24);
        due.is("that stand", x.count(1), 24);
        due.shelvesAre(x, "0 1 2 3 4 5", "6 7 8 9 10 11", "12 13 14 15 16 17", "18 19 20 21 22 23");
    }

    private static void shelveOutside() {
        due.sentence("OUTSIDE (bits of BOOKS there are)");
        OutOfPlace x = Due.told(Due.row(3, 2));
        for (int set : new int[] {8, 9, 1 << 24, -1, LEAST, GREATEST}) {
            due.is("set " + set, x.shelve(set), OUTSIDE);
        }
        due.is("none stands", x.count(1), 0);
        due.is("no DRAW", x.seed(0), 0);
        due.is("all three", x.shelve(7), 3);
        due.is("no books", new OutOfPlace().shelve(1), OUTSIDE);
        due.is("no books, an empty set", new OutOfPlace().shelve(0), 0);
        due.is("24 and one more", Due.told(Due.row(24, 1)).shelve(1 << 24), OUTSIDE);
    }

    private static void shelveAllWeights0() {
        due.sentence("NOT: all weights are 0");
        OutOfPlace x = Due.told(Due.row(3, 2));
        Due.habits(x, 0, 0, 0, 0, 0);
        due.is("three", x.shelve(7), NOT);
        due.is("an empty set", x.shelve(0), NOT);
        due.is("OUTSIDE first", x.shelve(8), OUTSIDE);
        due.is("none stands", x.count(1), 0);
        due.is("no DRAW", x.seed(0), 0);
        x.habit(4, 1);
        due.is("one weight", x.shelve(7), 3);
    }

    private static void imagesThereAre() {
        due.sentence("IMAGES 0, 1 keep", "UNKNOWN beside them");
        OutOfPlace x = new OutOfPlace();
        for (int i : new int[] {-1, 2, LEAST, GREATEST}) {
            due.is("keep " + i, x.keep(i), UNKNOWN);
            due.is("go back to " + i, x.goBack(i), UNKNOWN);
        }
        due.is("0 was not kept so", x.goBack(0), NOT);
        due.is("nor was 1", x.goBack(1), NOT);
        due.is("keep 0", x.keep(0), 1);
        due.is("keep 1", x.keep(1), 1);
    }

    private static void notKept() {
        due.sentence("NOT: it was not kept");
        for (int i = 0; i < 2; i++) {
            OutOfPlace x = Due.told("a1;");
            x.put(0, 0);
            due.is("neither was", x.goBack(i), NOT);
            x.keep(1 - i);
            due.is("the other was", x.goBack(i), NOT);
            due.is("it stands", x.book(0, 3), 0);
            x.keep(i);
            due.is("it was", x.goBack(i), 1);
        }
    }

    private static void keptEmpty() {
        due.sentence("IMAGE i becomes what is so", "none stands");
        OutOfPlace x = new OutOfPlace();
        due.is("of no books", x.keep(0), 1);
        Due.tell(x, Due.row(3, 2));
        Due.fill(x, 0, 0, 1, 2);
        x.list(7);
        x.seed(5);
        due.is("go back", x.goBack(0), 1);
        due.shelvesAre(x);
        due.is("none stands", x.count(1), 0);
        due.is("none is listed", x.list(0), 0);
        due.is("the seed", x.seed(0), 0);
        due.is("the books stay", x.count(0), 3);
    }

    private static void whatIsKept() {
        due.sentence("IMAGES 0, 1 keep THE ROW, THE LIST, THE SEED");
        OutOfPlace x = Due.told(Due.row(24, 2));
        for (int b = 0; b < 24; b++) {
            x.set(b, b % 8, 0);
        }
        x.list(ALL_24);
        x.seed(2147483647);
        x.keep(1);
        x.lay(0);
        x.list(1);
        x.seed(1);
        due.is("go back", x.goBack(1), 1);
        due.shelvesAre(x, "16 8 0", "17 9 1", "18 10 2", "19 11 3", "20 12 4", "21 13 5", "22 14 6", "23 15 7");
        due.is("the list", x.list(0), ALL_24);
        due.is("the seed", x.seed(0), 2147483647);
    }

    private static void whatIsNotKept() {
        due.sentence("IMAGES 0, 1 keep THE ROW, THE LIST, THE SEED", "no more");
        OutOfPlace x = Due.told("a1;a2;");
        Due.tell(x, "a1;");
        x.keep(0);
        Due.tell(x, "!");
        Due.feed(x, "b1;");
        Due.habits(x, 1, 2, 3, 4, 5);
        x.width(6, 17);
        due.is("go back", x.goBack(0), 1);
        due.is("the text", x.count(2), 3);
        due.is("the fault", x.fault(), 0);
        due.is("its books", x.books(), 3);
        due.is("a width", x.room(6), 17);
        for (int reading = 0; reading < 5; reading++) {
            due.is("a weight", x.habit(reading, 0), reading + 1);
        }
    }

    private static void imagesApart() {
        due.sentence("IMAGES 0, 1");
        OutOfPlace x = Due.told(Due.row(2, 2));
        Due.fill(x, 3, 0);
        x.list(1);
        x.keep(0);
        x.take(0);
        Due.fill(x, 4, 1);
        x.list(2);
        x.keep(1);
        x.goBack(0);
        due.shelvesAre(x, "", "", "", "0");
        due.is("list", x.list(0), 1);
        x.goBack(1);
        due.shelvesAre(x, "", "", "", "", "1");
        due.is("list", x.list(0), 2);
    }

    private static void keptAgain() {
        due.sentence("IMAGE i becomes what is so", "what it was is gone");
        OutOfPlace x = Due.told(Due.row(2, 2));
        Due.fill(x, 3, 0, 1);
        x.keep(0);
        x.take(0);
        x.keep(0);
        x.take(1);
        x.goBack(0);
        due.shelvesAre(x, "", "", "", "1");
    }

    private static void goBackAgain() {
        due.sentence("What is so becomes IMAGE i", "which stays as it was kept");
        OutOfPlace x = Due.told(Due.row(3, 2));
        Due.fill(x, 3, 2, 0);
        x.keep(0);
        for (int k = 0; k < 3; k++) {
            x.put(1, k);
            x.mend();
            x.list(k);
            x.shelve(7);
            due.is("go back", x.goBack(0), 1);
            due.shelvesAre(x, "", "", "", "2 0");
            due.is("list", x.list(0), 0);
            due.is("seed", x.seed(0), 0);
        }
    }

    private static void booksToldSince() {
        due.sentence("What is so becomes IMAGE i", "BOOKS told since do not stand");
        OutOfPlace x = Due.told("a1;");
        Due.fill(x, 0, 0);
        x.keep(0);
        Due.tell(x, "a2;");
        Due.fill(x, 7, 1);
        due.is("go back", x.goBack(0), 1);
        due.shelvesAre(x, "0");
        due.is("told since", x.book(1, 3), NONE);
        due.is("it may stand", x.put(1, 0), 0);
    }

    private static void widerThanAShelf() {
        due.sentence("NOT, if its BOOKS are wider than a SHELF now");
        for (int s = 0; s < 8; s++) {
            OutOfPlace x = Due.told(Due.row(3, 3));
            Due.fill(x, s, 0, 1);
            x.list(3);
            x.seed(9);
            x.keep(0);
            x.take(0);
            x.list(4);
            x.seed(8);
            x.width(s, 5);
            due.is("wider than shelf " + s, x.goBack(0), NOT);
            due.shelfIs(x, s, "1");
            due.is("list", x.list(4), 4);
            due.is("seed", x.seed(8), 8);
            x.width(s, 6);
            due.is("as wide as shelf " + s, x.goBack(0), 1);
            due.shelfIs(x, s, "0 1");
            due.is("list", x.list(0), 3);
            due.is("seed", x.seed(0), 9);
        }
    }

    private static void widthsStay() {
        due.sentence("(WIDTHS stay");
        OutOfPlace x = Due.told("a1 w9;");
        x.width(2, 40);
        Due.fill(x, 2, 0);
        x.keep(0);
        x.width(2, 9);
        x.width(3, 1);
        due.is("go back", x.goBack(0), 1);
        due.is("as wide as now", x.room(2), 0);
        due.is("another", x.room(3), 1);
        x.width(2, 60);
        due.is("go back", x.goBack(0), 1);
        due.is("as wide as now", x.room(2), 51);
    }
}
