/** Each sentence that names an edge of SHELVES and PUT: "Terms" 2, promises 10 to 15. */
public final class EdgesOfShelvesTest {
    private static final int NONE = OutOfPlace.NONE;
    private static final int UNKNOWN = OutOfPlace.UNKNOWN;
    private static final int OUTSIDE = OutOfPlace.OUTSIDE;
    private static final int NOT = OutOfPlace.NOT;
    private static final int LEAST = Integer.MIN_VALUE;
    private static final int GREATEST = Integer.MAX_VALUE;
    private static final int[] NO_SHELVES = {-1, 8, LEAST, GREATEST};
    private static final int[] NO_BOOKS = {-1, 3, 24, LEAST, GREATEST};
    private static final Due due = new Due("EdgesOfShelvesTest");

    public static void main(String[] args) {
        shelves0To7();
        boundsOfAWidth();
        booksAreWider();
        booksDoNotStandAtFirst();
        rowShelfByShelf();
        aheadOfTheFirstNotAhead();
        onThatOnesShelf();
        behindTheLastOne();
        onShelf0IfNoneStand();
        noRoomThen();
        lastToTheBeginningOfTheNext();
        asOftenAsItMustBe();
        andSoOn();
        noRoomToTheLast();
        pushedOnItself();
        widerThanItsShelf();
        booksOfAShelf();
        shelfRefused();
        roomThatIsLeft();
        placesToSet();
        nothingIsPushed();
        standsAlready();
        setRefused();
        putRefused();
        taken();
        takeRefused();
        due.end();
    }

    private static void shelves0To7() {
        due.sentence("SHELVES 0 to 7 have each WIDTH (1 .. 60; 30 at first)");
        OutOfPlace x = new OutOfPlace();
        for (int s = 0; s < 8; s++) {
            due.is("room at first", x.room(s), 30);
            due.is("width at first", x.width(s, 40 + s), 30);
        }
        for (int s = 0; s < 8; s++) {
            due.is("its own", x.room(s), 40 + s);
        }
        for (int s : NO_SHELVES) {
            due.is("shelf " + s, x.width(s, 5), UNKNOWN);
            due.is("UNKNOWN first", x.width(s, 0), UNKNOWN);
        }
    }

    private static void boundsOfAWidth() {
        due.sentence("WIDTH (1 .. 60;", "OUTSIDE beside them");
        OutOfPlace x = new OutOfPlace();
        due.is("least", x.width(0, 1), 30);
        due.is("greatest", x.width(0, 60), 1);
        for (int v : new int[] {0, 61, -1, LEAST, GREATEST}) {
            due.is("width " + v, x.width(0, v), OUTSIDE);
            due.is("as it was", x.room(0), 60);
        }
    }

    private static void booksAreWider() {
        due.sentence("NOT: its BOOKS are wider");
        OutOfPlace x = Due.told("a1 w9;a2 w9;a3 w9;");
        Due.fill(x, 4, 0, 1, 2);
        due.is("as wide as they are", x.width(4, 27), 30);
        due.is("less", x.width(4, 26), NOT);
        due.is("as it was", x.room(4), 0);
        due.is("OUTSIDE first", x.width(4, 0), OUTSIDE);
        due.is("another shelf", x.width(3, 1), 30);
        x.take(0);
        due.is("one is taken", x.width(4, 18), 27);
        x.take(1);
        x.take(2);
        due.is("none is there", x.width(4, 1), 18);
    }

    private static void booksDoNotStandAtFirst() {
        due.sentence("BOOKS do not stand at first");
        OutOfPlace x = Due.told(Due.row(3, 2));
        due.is("that stand", x.count(1), 0);
        for (int b = 0; b < 3; b++) {
            due.is("shelf of " + b, x.book(b, 3), NONE);
            due.is("take " + b, x.take(b), NOT);
        }
        due.shelvesAre(x);
    }

    private static void rowShelfByShelf() {
        due.sentence("THE ROW is all BOOKS that stand, SHELF by SHELF, from left to right");
        OutOfPlace x = Due.told(Due.row(4, 2));
        Due.fill(x, 7, 3);
        Due.fill(x, 0, 0);
        Due.fill(x, 4, 1, 2);
        due.is("in order so", x.tidy(0), 0);
        x.take(1);
        x.set(1, 4, 1);
        due.is("left and right", x.tidy(1), 2);
        OutOfPlace y = Due.told(Due.row(2, 2));
        Due.fill(y, 0, 1);
        Due.fill(y, 7, 0);
        due.is("first shelf and last", y.tidy(1), 1);
    }

    private static void aheadOfTheFirstNotAhead() {
        due.sentence("PUT by a READING: ahead of the first BOOK of THE ROW that is not AHEAD of it by that READING");
        OutOfPlace x = Due.told("a3;a1;a5;a2;");
        Due.fill(x, 2, 2, 1, 0);
        due.is("a2: ahead of a5, the first", x.put(3, 0), 2);
        due.shelfIs(x, 2, "3 2 1 0");
        OutOfPlace y = Due.told("a1;a2.9;a2.10;ab1;aa2;");
        Due.fill(y, 1, 0, 1);
        due.is("a2.10 rightly", y.put(2, 0), 1);
        due.shelfIs(y, 1, "0 2 1");
        y.take(2);
        due.is("a2.10 by decimals as whole numbers", y.put(2, 1), 1);
        due.shelfIs(y, 1, "0 1 2");
        due.is("ab1 by one letter: behind a1, the lesser BOOK", y.put(3, 3), 1);
        due.shelfIs(y, 1, "0 3 1 2");
    }

    private static void onThatOnesShelf() {
        due.sentence("on that one's SHELF");
        OutOfPlace x = Due.told(Due.row(3, 2));
        Due.fill(x, 2, 0);
        Due.fill(x, 6, 2);
        due.is("not on that of the one ahead", x.put(1, 0), 6);
        due.shelvesAre(x, "", "", "0", "", "", "", "1 2");
        x.take(0);
        due.is("ahead of all", x.put(0, 0), 6);
        due.shelvesAre(x, "", "", "", "", "", "", "0 1 2");
    }

    private static void behindTheLastOne() {
        due.sentence("behind the last one, on its SHELF, if there is none such");
        OutOfPlace x = Due.told(Due.row(3, 2));
        Due.fill(x, 0, 0);
        Due.fill(x, 3, 1);
        due.is("behind all", x.put(2, 0), 3);
        due.shelvesAre(x, "0", "", "", "1 2");
    }

    private static void onShelf0IfNoneStand() {
        due.sentence("on SHELF 0, if none stand");
        for (int reading = 0; reading < 5; reading++) {
            OutOfPlace x = Due.told(Due.row(3, 2));
            due.is("none stands", x.put(2, reading), 0);
        }
        OutOfPlace y = Due.told(Due.row(3, 2));
        Due.fill(y, 5, 0, 1);
        y.take(0);
        y.take(1);
        due.is("none stands any more", y.put(1, 0), 0);
        due.shelvesAre(y, "1");
    }

    private static void noRoomThen() {
        due.sentence("If that SHELF has no room then, BOOKS are PUSHED");
        OutOfPlace x = Due.told(Due.row(4, 2));
        x.width(0, 6);
        Due.fill(x, 0, 1, 2);
        due.is("just room", x.put(0, 0), 0);
        due.shelvesAre(x, "0 1 2");
        x.take(0);
        x.width(0, 5);
        due.is("one step too few", x.put(0, 0), 0);
        due.shelvesAre(x, "0 1", "2");
    }

    private static void lastToTheBeginningOfTheNext() {
        due.sentence("its last one to the beginning of the next SHELF");
        OutOfPlace x = Due.told(Due.row(5, 2));
        x.width(0, 4);
        Due.fill(x, 0, 0, 2);
        Due.fill(x, 1, 3, 4);
        due.is("between two", x.put(1, 0), 0);
        due.shelvesAre(x, "0 1", "2 3 4");
    }

    private static void asOftenAsItMustBe() {
        due.sentence("as often as it must be");
        OutOfPlace x = Due.told("a1 w9;" + "b1 w3;b2 w3;b3 w3;b4 w3;c1;");
        x.width(0, 12);
        Due.fill(x, 0, 1, 2, 3, 4);
        Due.fill(x, 1, 5);
        due.is("a wide one", x.put(0, 0), 0);
        due.shelvesAre(x, "0 1", "2 3 4 5");
    }

    private static void andSoOn() {
        due.sentence("and so on");
        OutOfPlace x = Due.told(Due.row(9, 2));
        Due.widths(x, 2, 2, 2, 2, 2, 2, 2, 4);
        for (int s = 0; s < 8; s++) {
            Due.fill(x, s, s + 1);
        }
        due.is("one on each", x.put(0, 0), 0);
        due.shelvesAre(x, "0", "1", "2", "3", "4", "5", "6", "7 8");
        OutOfPlace y = Due.told("a1;a2;a3 w9;a4 w9;");
        Due.widths(y, 11, 18);
        y.width(2, 9);
        Due.fill(y, 0, 1, 2);
        Due.fill(y, 1, 3);
        due.is("the next one has room", y.put(0, 0), 0);
        due.shelvesAre(y, "0 1", "2 3");
    }

    private static void noRoomToTheLast() {
        due.sentence("if there is no room to the last SHELF: NOT (nothing changes)");
        OutOfPlace x = Due.told(Due.row(10, 2));
        Due.widths(x, 2, 2, 2, 2, 2, 2, 2, 4);
        for (int s = 0; s < 8; s++) {
            Due.fill(x, s, s + 1);
        }
        x.width(7, 3);
        due.is("one step too few", x.put(0, 0), NOT);
        due.shelvesAre(x, "1", "2", "3", "4", "5", "6", "7", "8");
        due.is("behind all", x.put(9, 0), NOT);
        due.is("does not stand", x.book(9, 3), NONE);
        x.take(1);
        due.is("room on an earlier shelf is not looked at", x.put(0, 0), NOT);
        due.shelvesAre(x, "", "2", "3", "4", "5", "6", "7", "8");
        x.width(7, 4);
        due.is("just room on the last", x.put(0, 0), 1);
        due.shelvesAre(x, "", "0", "2", "3", "4", "5", "6", "7 8");
    }

    private static void pushedOnItself() {
        due.sentence("the SHELF on which it stands then (it may be PUSHED on itself)");
        OutOfPlace x = Due.told(Due.row(3, 2));
        Due.widths(x, 3, 1, 2, 2);
        due.is("the first", x.put(0, 0), 0);
        due.is("behind it, and over a narrow one", x.put(1, 0), 2);
        due.is("behind both", x.put(2, 0), 3);
        due.shelvesAre(x, "0", "", "1", "2");
        OutOfPlace y = Due.told("a1 w9;a2;");
        Due.widths(y, 1, 1, 8, 1, 1, 1, 1, 9);
        due.is("to the last", y.put(0, 0), 7);
    }

    private static void widerThanItsShelf() {
        due.sentence("as often as it must be", "the one that was PUT goes, too");
        OutOfPlace x = Due.told("a1 w5;a2;a3;");
        Due.widths(x, 4, 6, 2, 2);
        Due.fill(x, 0, 1, 2);
        due.is("all go with it", x.put(0, 0), 1);
        due.shelvesAre(x, "", "0", "1", "2");
    }

    private static void booksOfAShelf() {
        due.sentence("BOOK i of a SHELF from the left; i = NONE: how many; NONE: not so many");
        OutOfPlace x = Due.told(Due.row(24, 1));
        for (int b = 0; b < 24; b++) {
            x.set(b, 6, 0);
        }
        due.is("all", x.shelf(6, NONE), 24);
        for (int i = 0; i < 24; i++) {
            due.is("place " + i, x.shelf(6, i), 23 - i);
        }
        for (int i : new int[] {24, 25, -2, LEAST, GREATEST}) {
            due.is("place " + i, x.shelf(6, i), NONE);
        }
        for (int s : new int[] {0, 5, 7}) {
            due.is("none on " + s, x.shelf(s, NONE), 0);
            due.is("none on " + s, x.shelf(s, 0), NONE);
        }
        x.take(0);
        x.set(0, 7, 0);
        due.is("the last place", x.shelf(6, 22), 1);
        due.is("not that of the next shelf", x.shelf(6, 23), NONE);
    }

    private static void shelfRefused() {
        due.sentence("Room that is left on a SHELF. UNKNOWN.", "and BOOK i of a SHELF");
        OutOfPlace x = Due.told("a1;");
        for (int s : NO_SHELVES) {
            due.is("shelf " + s, x.shelf(s, 0), UNKNOWN);
            due.is("how many on " + s, x.shelf(s, NONE), UNKNOWN);
            due.is("room of " + s, x.room(s), UNKNOWN);
        }
    }

    private static void roomThatIsLeft() {
        due.sentence("Room that is left on a SHELF");
        OutOfPlace x = Due.told("a1 w9;a2 w1;a3;");
        x.width(7, 60);
        due.is("all of it", x.room(7), 60);
        x.width(7, 12);
        int[] left = {3, 2, 0};
        for (int b = 0; b < 3; b++) {
            Due.fill(x, 7, b);
            due.is("with " + b, x.room(7), left[b]);
        }
        due.is("another shelf", x.room(6), 30);
        x.take(0);
        due.is("one is taken", x.room(7), 9);
    }

    private static void placesToSet() {
        due.sentence("at place i of a SHELF (0 to as many as it has)");
        OutOfPlace x = Due.told(Due.row(3, 2));
        due.is("1 of none", x.set(0, 3, 1), OUTSIDE);
        due.is("0 of none", x.set(0, 3, 0), 1);
        due.is("2 of one", x.set(1, 3, 2), OUTSIDE);
        due.is("1 of one", x.set(1, 3, 1), 1);
        for (int i : new int[] {3, -1, LEAST, GREATEST}) {
            due.is("place " + i + " of two", x.set(2, 3, i), OUTSIDE);
        }
        due.shelvesAre(x, "", "", "", "0 1");
        due.is("the first of two", x.set(2, 3, 0), 1);
        due.shelvesAre(x, "", "", "", "2 0 1");
        x.take(0);
        due.is("between two", x.set(0, 3, 1), 1);
        due.shelvesAre(x, "", "", "", "2 0 1");
        OutOfPlace y = Due.told(Due.row(3, 2));
        Due.fill(y, 0, 0);
        Due.fill(y, 7, 1);
        due.is("the last shelf, the first place", y.set(2, 7, 0), 1);
        due.shelvesAre(y, "0", "", "", "", "", "", "", "2 1");
    }

    private static void nothingIsPushed() {
        due.sentence("nothing is pushed", "NOT: there is no room");
        OutOfPlace x = Due.told("a1 w3;a2 w3;a3 w3;a4 w2;");
        x.width(0, 8);
        Due.fill(x, 0, 0, 1);
        due.is("one too wide", x.set(2, 0, 0), NOT);
        due.shelvesAre(x, "0 1");
        due.is("just room", x.set(3, 0, 0), 1);
        due.is("no room", x.set(2, 0, 3), NOT);
        due.is("the next has", x.set(2, 1, 0), 1);
        due.shelvesAre(x, "3 0 1", "2");
    }

    private static void standsAlready() {
        due.sentence("NOT: it stands already");
        OutOfPlace x = Due.told(Due.row(2, 2));
        Due.fill(x, 0, 0, 1);
        due.is("on its shelf", x.set(0, 0, 0), NOT);
        due.is("on its shelf, elsewhere", x.set(0, 0, 2), NOT);
        due.is("on another shelf", x.set(1, 7, 0), NOT);
        due.shelvesAre(x, "0 1");
    }

    private static void setRefused() {
        due.sentence("UNKNOWN, OUTSIDE, NOT: it stands already, there is no room.");
        OutOfPlace x = Due.told(Due.row(3, 2));
        x.set(0, 0, 0);
        for (int b : NO_BOOKS) {
            due.is("book " + b, x.set(b, 0, 0), UNKNOWN);
            due.is("UNKNOWN first", x.set(b, 0, 9), UNKNOWN);
        }
        for (int s : NO_SHELVES) {
            due.is("shelf " + s, x.set(1, s, 0), UNKNOWN);
            due.is("UNKNOWN before OUTSIDE and NOT", x.set(0, s, -1), UNKNOWN);
        }
        due.is("OUTSIDE before NOT", x.set(0, 0, 2), OUTSIDE);
        due.shelvesAre(x, "0");
    }

    private static void putRefused() {
        due.sentence("UNKNOWN, NOT: it stands, it cannot be.");
        OutOfPlace x = Due.told(Due.row(3, 2));
        x.set(0, 0, 0);
        for (int b : NO_BOOKS) {
            due.is("book " + b, x.put(b, 0), UNKNOWN);
        }
        for (int reading : new int[] {-1, 5, LEAST, GREATEST}) {
            due.is("reading " + reading, x.put(1, reading), UNKNOWN);
            due.is("UNKNOWN before NOT", x.put(0, reading), UNKNOWN);
        }
        for (int reading = 0; reading < 5; reading++) {
            due.is("it stands", x.put(0, reading), NOT);
        }
        Due.widths(x, 3);
        due.is("it cannot be", x.put(1, 4), NOT);
        due.shelvesAre(x, "0");
    }

    private static void taken() {
        due.sentence("A BOOK is taken away: the SHELF on which it was");
        OutOfPlace x = Due.told(Due.row(5, 2));
        Due.fill(x, 0, 0);
        Due.fill(x, 7, 1, 2, 3);
        due.is("the middle one", x.take(2), 7);
        due.shelvesAre(x, "0", "", "", "", "", "", "", "1 3");
        due.is("the last one", x.take(3), 7);
        due.is("the first one", x.take(0), 0);
        due.is("the only one", x.take(1), 7);
        due.shelvesAre(x);
        due.is("none stands", x.count(1), 0);
        due.is("it may stand again", x.set(1, 2, 0), 1);
    }

    private static void takeRefused() {
        due.sentence("A BOOK is taken away: the SHELF on which it was. UNKNOWN, NOT: it does not stand.");
        OutOfPlace x = Due.told(Due.row(3, 2));
        x.set(0, 0, 0);
        for (int b : NO_BOOKS) {
            due.is("book " + b, x.take(b), UNKNOWN);
        }
        due.is("it never stood", x.take(1), NOT);
        x.take(0);
        due.is("it was taken", x.take(0), NOT);
    }
}
