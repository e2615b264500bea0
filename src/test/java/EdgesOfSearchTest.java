/** Each sentence that names an edge of THE LIST, STOCK, HABITS, LIKELY and THE SEARCH: "Terms" 4, promises 23 to 27. */
public final class EdgesOfSearchTest {
    private static final int NONE = OutOfPlace.NONE;
    private static final int UNKNOWN = OutOfPlace.UNKNOWN;
    private static final int OUTSIDE = OutOfPlace.OUTSIDE;
    private static final int NOT = OutOfPlace.NOT;
    private static final int LEAST = Integer.MIN_VALUE;
    private static final int GREATEST = Integer.MAX_VALUE;
    private static final int[] NO_SHELVES = {-1, 8, LEAST, GREATEST};
    private static final int MILLION = 1000000;
    private static final int ALL_24 = (1 << 24) - 1;
    private static final Due due = new Due("EdgesOfSearchTest");

    public static void main(String[] args) {
        bitsOfBooksThereAre();
        listOfAll24();
        listOfNoBooks();
        doNotStand();
        notOfIt();
        stockRefused();
        weightsAtFirst();
        boundsOfAWeight();
        habitRefused();
        likelyIfNoneStand();
        weightsTogether();
        cut();
        allWeights0();
        rowAsItIs();
        withoutPushing();
        likelyRefused();
        beginsAtShelf0();
        atLeastOneStep();
        asManyStepsAsBooks();
        cutAtTheEnd();
        likelyAbove0();
        ofLikeOnesTheFirst();
        alikeWhenCut();
        oneShelf();
        fourShelves();
        fiveShelves();
        searchAllWeights0();
        searchPlaces();
        searchRefused();
        due.end();
    }

    private static void bitsOfBooksThereAre() {
        due.sentence("THE LIST becomes a SET (bits of BOOKS there are): what it was. OUTSIDE");
        OutOfPlace x = Due.told(Due.row(3, 2));
        due.is("all", x.list(7), 0);
        due.is("one", x.list(4), 7);
        for (int set : new int[] {8, 9, 15, 1 << 24, 1 << 30, -1, -8, LEAST, GREATEST}) {
            due.is("list " + set, x.list(set), OUTSIDE);
            due.is("as it was", x.count(3), 1);
        }
        due.is("none", x.list(0), 4);
        due.is("none", x.count(3), 0);
        Due.tell(x, "b1;");
        due.is("a book more", x.list(8), 0);
    }

    private static void listOfAll24() {
        due.sentence("(bits of BOOKS there are)", "24");
        OutOfPlace x = Due.told(Due.row(24, 1));
        due.is("all", x.list(ALL_24), 0);
        due.is("one more", x.list(ALL_24 + 1), OUTSIDE);
        due.is("the last one", x.list(1 << 23), ALL_24);
        due.is("none", x.list(0), 1 << 23);
    }

    private static void listOfNoBooks() {
        due.sentence("(bits of BOOKS there are)", "none");
        OutOfPlace x = new OutOfPlace();
        due.is("empty", x.list(0), 0);
        due.is("book 0", x.list(1), OUTSIDE);
    }

    private static void doNotStand() {
        due.sentence("0 those of THE LIST that do not stand");
        OutOfPlace x = Due.told(Due.row(24, 1));
        due.is("none is listed", x.stock(0), 0);
        x.list(ALL_24);
        due.is("none stands", x.stock(0), ALL_24);
        Due.fill(x, 0, 0);
        Due.fill(x, 7, 23);
        due.is("two stand", x.stock(0), ALL_24 - 1 - (1 << 23));
        x.list(1 + (1 << 23));
        due.is("all listed stand", x.stock(0), 0);
    }

    private static void notOfIt() {
        due.sentence("1 those that stand and are not of it");
        OutOfPlace x = Due.told(Due.row(24, 1));
        due.is("none stands", x.stock(1), 0);
        x.shelve(ALL_24);
        due.is("none is listed", x.stock(1), ALL_24);
        x.list(1 + (1 << 23));
        due.is("two are", x.stock(1), ALL_24 - 1 - (1 << 23));
        x.list(ALL_24);
        due.is("all are", x.stock(1), 0);
        x.take(23);
        due.is("one is not in", x.stock(1), 0);
    }

    private static void stockRefused() {
        due.sentence("1 those that stand and are not of it. OUTSIDE.");
        OutOfPlace x = Due.told("a1;");
        for (int what : new int[] {-1, 2, LEAST, GREATEST}) {
            due.is("stock " + what, x.stock(what), OUTSIDE);
        }
    }

    private static void weightsAtFirst() {
        due.sentence("60 10 10 10 10 at first");
        int[] first = {60, 10, 10, 10, 10};
        OutOfPlace x = new OutOfPlace();
        for (int reading = 0; reading < 5; reading++) {
            due.is("weight of " + reading, x.habit(reading, 90 + reading), first[reading]);
        }
        for (int reading = 0; reading < 5; reading++) {
            due.is("its own", x.habit(reading, 1), 90 + reading);
        }
    }

    private static void boundsOfAWeight() {
        due.sentence("weights of READINGS (0 .. 99 each;");
        OutOfPlace x = new OutOfPlace();
        for (int reading = 0; reading < 5; reading++) {
            x.habit(reading, 0);
            due.is("least", x.habit(reading, 99), 0);
            for (int v : new int[] {-1, 100, LEAST, GREATEST}) {
                due.is("weight " + v, x.habit(reading, v), OUTSIDE);
            }
            due.is("greatest", x.habit(reading, 50), 99);
        }
    }

    private static void habitRefused() {
        due.sentence("The weight of a READING becomes v: what it was. UNKNOWN, OUTSIDE.");
        OutOfPlace x = new OutOfPlace();
        for (int reading : new int[] {-1, 5, LEAST, GREATEST}) {
            due.is("reading " + reading, x.habit(reading, 1), UNKNOWN);
            due.is("UNKNOWN first", x.habit(reading, 100), UNKNOWN);
        }
    }

    /** BOOK 0 is ab10.2.c2; by READINGS 4, 3, 2, 1, 0 it is PUT ahead of BOOKS 1, 2, 3, 4, 5. */
    private static OutOfPlace fiveWays() {
        return Due.told("ab10.2.c2;ab9;aa11;ab10.2.c10;ab10.10;b1;");
    }

    private static void likelyIfNoneStand() {
        due.sentence("A BOOK that does not stand is LIKELY on a SHELF: of a MILLION", "none stands");
        OutOfPlace x = fiveWays();
        for (int s = 0; s < 8; s++) {
            due.is("likely on " + s, x.likely(0, s), s == 0 ? MILLION : 0);
        }
    }

    private static void weightsTogether() {
        due.sentence("weights of READINGS by which it would be PUT there");
        OutOfPlace x = fiveWays();
        for (int b = 1; b < 6; b++) {
            x.set(b, b + 1, 0);
        }
        int[] want = {0, 0, 100000, 100000, 100000, 100000, 600000, 0};
        for (int s = 0; s < 8; s++) {
            due.is("likely on " + s, x.likely(0, s), want[s]);
        }
        Due.habits(x, 99, 99, 99, 99, 99);
        due.is("a fifth", x.likely(0, 6), 200000);
        Due.habits(x, 99, 0, 0, 0, 1);
        due.is("99 of 100", x.likely(0, 6), 990000);
        due.is("1 of 100", x.likely(0, 2), 10000);
        due.is("0 of 100", x.likely(0, 3), 0);
        Due.habits(x, 0, 0, 0, 0, 1);
        due.is("1 of 1", x.likely(0, 2), MILLION);
        OutOfPlace y = fiveWays();
        Due.fill(y, 3, 1, 2, 3, 4, 5);
        due.is("all on one", y.likely(0, 3), MILLION);
    }

    private static void cut() {
        due.sentence("times MILLION / all weights (cut");
        OutOfPlace x = fiveWays();
        Due.fill(x, 0, 1);
        Due.fill(x, 7, 5);
        Due.habits(x, 2, 0, 0, 0, 1);
        due.is("a third", x.likely(0, 0), 333333);
        due.is("two thirds", x.likely(0, 7), 666666);
        Due.habits(x, 99, 99, 99, 0, 97);
        due.is("97 of 394", x.likely(0, 0), 246192);
        due.is("297 of 394", x.likely(0, 7), 753807);
    }

    private static void allWeights0() {
        due.sentence("0, if all are 0");
        OutOfPlace x = fiveWays();
        Due.habits(x, 0, 0, 0, 0, 0);
        due.is("none stands", x.likely(0, 0), 0);
        Due.fill(x, 4, 5);
        due.is("one stands", x.likely(0, 4), 0);
        x.habit(3, 1);
        due.is("one weight", x.likely(0, 4), MILLION);
    }

    private static void rowAsItIs() {
        due.sentence("(by THE ROW as it is");
        OutOfPlace x = Due.told(Due.row(4, 2));
        Due.fill(x, 1, 3);
        Due.fill(x, 6, 0, 1);
        due.is("ahead of one out of place", x.likely(2, 1), MILLION);
        x.take(3);
        due.is("behind the last one", x.likely(2, 6), MILLION);
        due.is("nothing changes", x.book(2, 3), NONE);
    }

    private static void withoutPushing() {
        due.sentence("without pushing)");
        OutOfPlace x = Due.told("a1;a2 w9;");
        Due.widths(x, 1, 1, 2);
        Due.fill(x, 2, 0);
        due.is("no room on it", x.likely(1, 2), MILLION);
        due.is("none on the next", x.likely(1, 3), 0);
        due.is("it cannot be put", x.put(1, 0), NOT);
        OutOfPlace y = Due.told("a1;");
        y.width(0, 1);
        due.is("none stands, no room", y.likely(0, 0), MILLION);
        due.is("put itself pushes", y.put(0, 0), 1);
    }

    private static void likelyRefused() {
        due.sentence("LIKELY of a BOOK on a SHELF. UNKNOWN, NOT: it stands");
        OutOfPlace x = Due.told(Due.row(2, 2));
        Due.fill(x, 0, 0);
        for (int b : new int[] {-1, 2, 24, LEAST, GREATEST}) {
            due.is("book " + b, x.likely(b, 0), UNKNOWN);
        }
        for (int s : NO_SHELVES) {
            due.is("shelf " + s, x.likely(1, s), UNKNOWN);
            due.is("UNKNOWN before NOT", x.likely(0, s), UNKNOWN);
        }
        due.is("it stands", x.likely(0, 0), NOT);
        due.is("it stands, elsewhere", x.likely(0, 7), NOT);
    }

    private static void beginsAtShelf0() {
        due.sentence("one begins at SHELF 0, goes to SHELVES in some order: a step for each SHELF further");
        for (int s = 0; s < 8; s++) {
            OutOfPlace x = Due.told(Due.row(2, 2));
            x.set(0, s, 0);
            due.is("one on shelf " + s, x.search(1, NONE), (s + 1) * 1000);
            due.is("to go to", x.search(1, 0), s);
        }
        OutOfPlace y = fiveWays();
        Due.fill(y, 0, 1);
        Due.fill(y, 7, 5);
        Due.habits(y, 1, 0, 0, 0, 9);
        due.is("0, then 7", y.search(0, NONE), 900 * 1 + 100 * 9);
        Due.habits(y, 99, 0, 0, 0, 1);
        due.is("7, then back to 0", y.search(0, NONE), 990 * 8 + 10 * 16);
        Due.fill(y, 1, 2);
        y.take(1);
        Due.habits(y, 99, 0, 0, 1, 0);
        due.is("7, then back to 1", y.search(0, NONE), 990 * 8 + 10 * 15);
    }

    private static void atLeastOneStep() {
        due.sentence("then as many steps as it has BOOKS (at least 1) to read it");
        OutOfPlace x = Due.told("a1;a2;");
        due.is("an empty shelf 0", x.search(0, NONE), 1000);
        x.set(1, 0, 0);
        due.is("one book", x.search(0, NONE), 1000);
    }

    private static void asManyStepsAsBooks() {
        due.sentence("as many steps as it has BOOKS");
        OutOfPlace x = Due.told(Due.row(24, 1));
        for (int b = 0; b < 23; b++) {
            Due.fill(x, 7, b);
            due.is((b + 1) + " books", x.search(23, NONE), (7 + b + 1) * 1000);
        }
    }

    private static void cutAtTheEnd() {
        due.sentence("the sum over SHELVES of LIKELY times steps till that one is read, / 1000 (cut at the end)");
        OutOfPlace x = fiveWays();
        Due.fill(x, 0, 5);
        due.is("one shelf", x.search(0, NONE), 1000);
        x.take(5);
        Due.fill(x, 0, 1);
        Due.fill(x, 1, 5);
        Due.habits(x, 2, 0, 0, 0, 1);
        due.is("333333 and 666666 * 3, not 333 and 1999", x.search(0, NONE), 2333);
        Due.habits(x, 1, 0, 0, 0, 2);
        due.is("666666 and 333333 * 3, not 666 and 999", x.search(0, NONE), 1666);
        OutOfPlace y = Due.told("a1.10;a1.2;a1.3;a1.4;a1.5;a1.6;a1.7;a1.8;");
        Due.fill(y, 0, 1, 2, 3);
        Due.fill(y, 1, 4, 5, 6, 7);
        Due.habits(y, 40, 93, 0, 0, 0);
        due.is("699248 * 5 and 300751 * 9 are 6202999", y.search(0, NONE), 6202);
    }

    private static void likelyAbove0() {
        due.sentence("over those SHELVES that have LIKELY above 0");
        OutOfPlace x = fiveWays();
        for (int b = 1; b < 6; b++) {
            x.set(b, b, 0);
        }
        Due.habits(x, 1, 0, 0, 1, 0);
        due.is("near one", x.search(0, 0), 2);
        due.is("far one", x.search(0, 1), 5);
        due.is("no more", x.search(0, 2), NONE);
        due.is("cost", x.search(0, NONE), 500 * 3 + 500 * 7);
    }

    private static void ofLikeOnesTheFirst() {
        due.sentence("of like ones the first (SHELF by SHELF the lesser ahead)");
        OutOfPlace x = fiveWays();
        x.set(1, 0, 0);
        x.set(5, 1, 0);
        Due.tell(x, "aa1;aa2;aa3;aa4;aa5;");
        Due.fill(x, 0, 6, 7, 8, 9, 10);
        Due.habits(x, 1, 0, 0, 0, 2);
        x.take(1);
        x.set(1, 0, 5);
        due.is("0 has six", x.shelf(0, NONE), 6);
        due.is("cost of 0 1 and of 1 0", x.search(0, NONE), 6666);
        due.is("0 first", x.search(0, 0), 0);
        due.is("1 then", x.search(0, 1), 1);
    }

    /** Sums 12764697 (0 first) and 12764691 (1 first): COST is 12764 both ways. */
    private static void alikeWhenCut() {
        due.sentence("the order of the least COST, of like ones the first", "alike when cut");
        OutOfPlace x = Due.told("a1.10;a1.2;a1.3;a1.4;a1.5;a1.6;a1.7;a1.8;a1.9;a2;a3;a4;a5;a6;a7;a8;");
        Due.fill(x, 0, 1, 2, 3, 4, 5);
        Due.fill(x, 1, 6, 7, 8, 9, 10, 11, 12, 13, 14, 15);
        Due.habits(x, 5, 12, 0, 0, 0);
        due.is("cost", x.search(0, NONE), 12764);
        due.is("the first of like ones", x.search(0, 0), 0);
        due.is("the other one", x.search(0, 1), 1);
    }

    private static void oneShelf() {
        due.sentence("goes to SHELVES in some order", "to one");
        OutOfPlace x = Due.told(Due.row(2, 2));
        Due.fill(x, 6, 0);
        due.is("the one", x.search(1, 0), 6);
        due.is("no more", x.search(1, 1), NONE);
    }

    /** Steps 1, 3, 7, 10: the likely one far off ahead of one that is passed. */
    private static void fourShelves() {
        due.sentence("the order of the least COST", "of four SHELVES");
        OutOfPlace x = fiveWays();
        x.set(1, 0, 0);
        x.set(2, 1, 0);
        x.set(3, 2, 0);
        x.set(5, 4, 0);
        Due.habits(x, 60, 0, 10, 10, 20);
        due.is("cost", x.search(0, NONE), 200 + 300 + 600 * 7 + 100 * 10);
        int[] tour = {0, 1, 4, 2, NONE};
        for (int i = 0; i < tour.length; i++) {
            due.is("place " + i, x.search(0, i), tour[i]);
        }
        Due.habits(x, 10, 0, 60, 10, 20);
        due.is("cost", x.search(0, NONE), 200 + 600 * 4 + 100 * 6 + 100 * 10);
        due.is("2 ahead of 1", x.search(0, 1), 2);
        Due.habits(x, 1, 0, 1, 96, 2);
        due.is("1 first", x.search(0, 0), 1);
        Due.habits(x, 96, 0, 1, 1, 2);
        due.is("4 first", x.search(0, 0), 4);
        due.is("2 then", x.search(0, 1), 2);
        due.is("1 then", x.search(0, 2), 1);
        due.is("0 at the end", x.search(0, 3), 0);
    }

    private static void fiveShelves() {
        due.sentence("the order of the least COST", "of five SHELVES, as there are five READINGS");
        OutOfPlace x = fiveWays();
        for (int b = 1; b < 6; b++) {
            x.set(b, b - 1, 0);
        }
        due.is("cost", x.search(0, NONE), 100 + 300 + 600 * 7 + 100 * 9 + 100 * 11);
        int[] tour = {0, 1, 4, 3, 2, NONE, NONE, NONE, NONE};
        for (int i = 0; i < tour.length; i++) {
            due.is("place " + i, x.search(0, i), tour[i]);
        }
        Due.habits(x, 96, 1, 1, 1, 1);
        for (int i = 0; i < 5; i++) {
            due.is("the last of all orders " + i, x.search(0, i), 4 - i);
        }
        due.is("its cost", x.search(0, NONE), 960 * 5 + 10 * (7 + 9 + 11 + 13));
    }

    private static void searchAllWeights0() {
        due.sentence("over those SHELVES that have LIKELY above 0", "none");
        OutOfPlace x = fiveWays();
        Due.fill(x, 2, 1, 5);
        Due.habits(x, 0, 0, 0, 0, 0);
        due.is("no cost", x.search(0, NONE), 0);
        due.is("no shelf", x.search(0, 0), NONE);
    }

    private static void searchPlaces() {
        due.sentence("i = NONE its COST, else the i-th SHELF; NONE: not so many");
        OutOfPlace x = Due.told(Due.row(2, 2));
        Due.fill(x, 3, 0);
        due.is("place 0", x.search(1, 0), 3);
        for (int i : new int[] {1, 2, 7, 8, -2, LEAST, GREATEST}) {
            due.is("place " + i, x.search(1, i), NONE);
        }
        due.is("nothing changes", x.count(1), 1);
    }

    private static void searchRefused() {
        due.sentence("NONE: not so many. UNKNOWN, NOT: the BOOK stands.");
        OutOfPlace x = Due.told(Due.row(2, 2));
        Due.fill(x, 0, 0);
        for (int b : new int[] {-1, 2, 24, LEAST, GREATEST}) {
            due.is("book " + b, x.search(b, 0), UNKNOWN);
            due.is("cost of " + b, x.search(b, NONE), UNKNOWN);
        }
        due.is("it stands", x.search(0, 0), NOT);
        due.is("its cost", x.search(0, NONE), NOT);
        due.is("NOT, not NONE", x.search(0, 8), NOT);
    }
}
