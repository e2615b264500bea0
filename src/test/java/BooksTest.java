/** Promises 1 to 9. */
public final class BooksTest {
    private static final int NONE = OutOfPlace.NONE;
    private static final int UNKNOWN = OutOfPlace.UNKNOWN;
    private static final int OUTSIDE = OutOfPlace.OUTSIDE;
    private static final int FULL = OutOfPlace.FULL;
    private static final Due due = new Due("BooksTest");

    public static void main(String[] args) {
        newObject();
        feed();
        textsWithoutFault();
        textsWithFault();
        booksOfSeveralTexts();
        tooManyBooks();
        book();
        mark();
        aheadByReadings();
        aheadRefusals();
        order();
        count();
        due.end();
    }

    private static void newObject() {
        OutOfPlace x = new OutOfPlace();
        for (int what = 0; what < 4; what++) {
            due.is("new count " + what, x.count(what), 0);
        }
        due.is("new fault", x.fault(), NONE);
        due.is("new book", x.book(0, 0), UNKNOWN);
        for (int s = 0; s < 8; s++) {
            due.is("new shelf", x.shelf(s, NONE), 0);
            due.is("new room", x.room(s), 30);
            due.is("new guide", x.guide(s, NONE), 0);
        }
        due.is("new books", x.books(), 0);
        due.is("new seed", x.seed(0), 0);
        due.is("new list", x.list(0), 0);
        due.is("new habit 0", x.habit(0, 0), 60);
        for (int reading = 1; reading < 5; reading++) {
            due.is("new habit " + reading, x.habit(reading, 0), 10);
        }
    }

    private static void feed() {
        OutOfPlace x = new OutOfPlace();
        for (int n : new int[] {0, 9, -1, Integer.MIN_VALUE, Integer.MAX_VALUE}) {
            due.is("feed " + n, x.feed(n, 0), OUTSIDE);
        }
        due.is("feed lowest bytes", x.feed(3, 0x7A7A7A7A7A61313BL), 3);
        due.is("highest of these first", x.books(), 1);
        due.textIs("the mark fed", Due.mark(x, 0), "a1");
        due.is("feed byte 255", x.feed(1, -1L), 1);
        due.is("byte 255", x.books(), -11);
        due.is("feed byte 0", x.feed(1, 0L), 1);
        due.is("byte 0", x.books(), -11);
        for (int k = 1; k <= 74; k++) {
            due.is("feed on", x.feed(8, 0x2020202020202020L), 8 * k);
        }
        due.is("592 and 1", x.feed(1, 32), 593);
        due.is("593 and 8", x.feed(8, 32), FULL);
        due.is("unchanged", x.count(2), 593);
        due.is("593 and 7", x.feed(7, 0x20202020202020L), 600);
        due.is("600 and 1", x.feed(1, 32), FULL);
        due.is("OUTSIDE before FULL", x.feed(9, 32), OUTSIDE);
        due.is("600 blanks", x.books(), 1);
        due.is("emptied", x.feed(1, 32), 1);
    }

    private static void textsWithoutFault() {
        due.goodText("", 0);
        due.goodText("     ", 0);
        due.goodText("a1;", 1);
        due.goodText("  a1  ;  b1;", 2);
        due.goodText("a1;  ", 1);
        due.goodText("zz9999.0000.z0000 y2999 w9;", 1);
        due.goodText("a1 y1000;a1 y2999;", 2);
        due.goodText("a1   y1990   w1   ;", 1);
        due.goodText("a1 w3;a2.w3;a2.y1990;y1;w1;", 5);
        due.goodText("a1.5;a1.50;a1.05;a1;a1.0;ab1.5;a1.5.b5;a1.5.b05;a1.b5;a1.b5 y1990;", 10);
    }

    private static void textsWithFault() {
        cannotStand();
        tooManySigns();
        aFault("a1 y0999;", 3, 4);
        aFault("a1 y0000;", 3, 4);
        aFault("a1 y3000;", 3, 4);
        aFault("a1 y9999x", 3, 4);
        aFault("a1   y30000;", 3, 6);
        aFault("a1;a1;", 5, 5);
        aFault("a1;a1 w3 ;", 5, 9);
        aFault("a1 y1990;a1  y1990;", 5, 18);
        aFault("a1.5.b6;a2;a1.5.b6;c", 5, 18);
    }

    private static void cannotStand() {
        String[] texts = {"A1;", "1;", ";", "a;", "a 1;", "ab", "a", "a0;", "a01;", "a1.;", "a1.b;", "a1.5.;",
            "a1.2.3;", "a1.b2.3;", "a1.b2.c3;", "a1.bc2;", "a1.b2c;", "a1 .5;", "a1. 5;", "a1 5;", "a1y1990;",
            "a1 y999;", "a1 y 1990;", "a1 y19990;", "a1 y99x9;", "a1 y;", "a1w3;", "a1 w0;", "a1 w;", "a1 w33;",
            "a1 w 3;", "a1 w3 y1990;", "a1 y1990w3;", "a1 y1990 y1991;", "a1 w3 w3;", "a1", "a1 ", "a1 y1990",
            "a1 w3", "a1\t;", "a1;b1", "a1;;", "a1..b2;", "a1.5b2;", "a1 x;", "a1,", "aB1;", "a1.B2;", "a1.", "a1 y30"};
        int[] places = {0, 0, 0, 1, 1, 2, 1, 1, 1, 3, 4, 5,
            5, 5, 5, 4, 5, 3, 3, 3, 2,
            7, 4, 8, 6, 4, 2, 4, 4, 5,
            4, 6, 8, 9, 6, 2, 3, 8,
            5, 2, 5, 3, 3, 4, 3, 2, 1, 3, 3, 6};
        for (int i = 0; i < texts.length; i++) {
            aFault(texts[i], 1, places[i]);
        }
    }

    private static void tooManySigns() {
        aFault("abc1;", 2, 2);
        aFault("abcd", 2, 2);
        aFault("a1;  xyz1;", 2, 7);
        aFault("a12345;", 2, 5);
        aFault("a1.12345;", 2, 7);
        aFault("a1.b12345;", 2, 8);
        aFault("a1.1.b12345", 2, 10);
        aFault("a1;a1;a12345", 5, 5);
    }

    private static void aFault(String text, int kind, int place) {
        OutOfPlace x = Due.told("q1;");
        due.is("books of " + text, Due.tell(x, text), -10 - kind);
        due.is("fault of " + text, x.fault(), place);
        due.is("none added by " + text, x.count(0), 1);
        due.is("emptied after " + text, x.count(2), 0);
    }

    private static void booksOfSeveralTexts() {
        OutOfPlace x = new OutOfPlace();
        due.is("first text", Due.tell(x, "b1;a1;"), 2);
        due.is("faulty text", Due.tell(x, "c1;d1;b1;"), -15);
        due.is("its fault", x.fault(), 8);
        due.is("its fault again", x.fault(), 8);
        due.is("what a faulty text told is free", Due.tell(x, "d1 w7;c1;"), 4);
        due.is("no fault", x.fault(), NONE);
        due.textIs("mark 2", Due.mark(x, 2), "d1");
        due.is("width 2", x.book(2, 2), 7);
        due.is("mark 3 has no width told", x.book(3, 2), 2);
        due.is("empty text", x.books(), 4);
    }

    private static void tooManyBooks() {
        StringBuilder text = new StringBuilder();
        for (int n = 1; n <= 24; n++) {
            text.append("a").append(n).append(";");
        }
        OutOfPlace x = new OutOfPlace();
        due.is("25 in one text", Due.tell(x, text + " a25;"), -14);
        due.is("at its class", x.fault(), text.length() + 1);
        due.is("none", x.count(0), 0);
        due.is("24", Due.tell(x, text.toString()), 24);
        due.is("a 25th", Due.tell(x, "  b!"), -14);
        due.is("at its class", x.fault(), 2);
        due.is("no class", Due.tell(x, "1"), -11);
        due.is("at it", x.fault(), 0);
        due.is("a mark there already, as 25th", Due.tell(x, "a1;"), -14);
        due.is("blanks", Due.tell(x, "  "), 24);
        due.is("book 23", x.book(23, 0), 24);
        due.is("book 24", x.book(24, 0), UNKNOWN);
    }

    private static void book() {
        OutOfPlace x = Due.told("ab1203.0450.c0007 y2024 w9;q7;");
        int[] first = {1203, 2024, 9, NONE, NONE};
        int[] second = {7, NONE, 2, NONE, NONE};
        for (int what = 0; what < 5; what++) {
            due.is("book 0 " + what, x.book(0, what), first[what]);
            due.is("book 1 " + what, x.book(1, what), second[what]);
        }
        Due.fill(x, 3, 1, 0);
        due.is("its shelf", x.book(0, 3), 3);
        due.is("its place", x.book(0, 4), 1);
        due.is("first place", x.book(1, 4), 0);
        OutOfPlace y = Due.told("a1;a2;a3;");
        Due.fill(y, 2, 2);
        Due.fill(y, 5, 1, 0);
        due.is("place behind earlier shelves", y.book(0, 4), 1);
        due.is("first place behind earlier shelves", y.book(1, 4), 0);
        due.is("what -1", x.book(0, -1), OUTSIDE);
        due.is("what 5", x.book(0, 5), OUTSIDE);
        due.is("book -1", x.book(-1, 9), UNKNOWN);
        due.is("book 2", x.book(2, 0), UNKNOWN);
        due.is("least book", x.book(Integer.MIN_VALUE, 0), UNKNOWN);
    }

    private static void mark() {
        OutOfPlace x = Due.told("ab1203.0450.c0007   y2024   w9;q7  ;z1.5 y1000;");
        due.textIs("the longest mark", Due.mark(x, 0), "ab1203.0450.c0007 y2024");
        due.textIs("the shortest mark", Due.mark(x, 1), "q7");
        due.textIs("mark with year", Due.mark(x, 2), "z1.5 y1000");
        due.is("length", x.mark(0, NONE), 23);
        due.is("behind", x.mark(0, 23), NONE);
        due.is("behind the short one", x.mark(1, 2), NONE);
        due.is("-2", x.mark(0, -2), NONE);
        due.is("greatest", x.mark(0, Integer.MAX_VALUE), NONE);
        due.is("unknown", x.mark(3, 0), UNKNOWN);
        due.is("unknown length", x.mark(-1, NONE), UNKNOWN);
    }

    private static void aheadByReadings() {
        classes();
        numbersAndDecimals();
        cuttersAndYears();
    }

    private static void classes() {
        due.aheadIs("a2", "b1", "11111");
        due.aheadIs("a1", "ab1", "11111");
        due.aheadIs("ab1", "a1", "00010");
        due.aheadIs("ab1", "b1", "11111");
        due.aheadIs("aa2", "ab1", "11101");
        due.aheadIs("az1", "ab2", "00010");
    }

    private static void numbersAndDecimals() {
        due.aheadIs("a9", "a10", "11110");
        due.aheadIs("a10", "a1", "00000");
        due.aheadIs("a1", "a10", "11111");
        due.aheadIs("a1.9", "a1.10", "01000");
        due.aheadIs("a1", "a1.0", "11111");
        due.aheadIs("a1.0", "a1", "01000");
        due.aheadIs("a1.5", "a1.50", "11111");
        due.aheadIs("a1.50", "a1.5", "00000");
        due.aheadIs("a1.5", "a1.05", "01000");
        due.aheadIs("a1.5", "a1.b1", "00000");
        due.aheadIs("a1.0.a1", "a1.b1", "01000");
        due.aheadIs("a2", "a1.9", "00000");
    }

    private static void cuttersAndYears() {
        due.aheadIs("a1.b9", "a1.b10", "00100");
        due.aheadIs("a1.a0", "a1", "00000");
        due.aheadIs("a1", "a1.a0", "11111");
        due.aheadIs("a1.b9999", "a1.c0", "11111");
        due.aheadIs("a1.b7", "a1.b07", "00100");
        due.aheadIs("a1.b5", "a1.b50", "11111");
        due.aheadIs("a1", "a1 y1000", "11111");
        due.aheadIs("a1 y1000", "a1", "00000");
        due.aheadIs("a1 y1999", "a1 y2000", "11111");
        due.aheadIs("a1.b1 y2000", "a1.b2 y1999", "11111");
    }

    private static void aheadRefusals() {
        OutOfPlace x = Due.told("a1;b1;");
        due.is("a unknown", x.ahead(2, 0, 0), UNKNOWN);
        due.is("b unknown", x.ahead(0, -1, 0), UNKNOWN);
        due.is("reading -1", x.ahead(0, 1, -1), UNKNOWN);
        due.is("reading 5", x.ahead(0, 1, 5), UNKNOWN);
    }

    private static void order() {
        OutOfPlace x = Due.told("a10;a9;b1;ab3;a2.5;a2.15;");
        String[] want = {"5 4 1 0 3 2", "4 5 1 0 3 2", "5 4 1 0 3 2", "5 4 3 1 0 2", "0 5 4 1 3 2"};
        for (int reading = 0; reading < 5; reading++) {
            StringBuilder got = new StringBuilder();
            for (int i = 0; i < 6; i++) {
                got.append(i == 0 ? "" : " ").append(x.order(reading, i));
            }
            due.textIs("order by " + reading, got.toString(), want[reading]);
        }
        due.is("place 6", x.order(0, 6), NONE);
        due.is("place -1", x.order(0, -1), NONE);
        due.is("least place", x.order(0, Integer.MIN_VALUE), NONE);
        due.is("reading 5", x.order(5, -1), UNKNOWN);
        due.is("reading -1", x.order(-1, 0), UNKNOWN);
        due.is("none stands by it", x.count(1), 0);
    }

    private static void count() {
        OutOfPlace x = Due.told("a1;b1;c1;");
        x.put(1, 0);
        x.put(0, 0);
        x.feed(5, 0);
        x.list(5);
        due.is("books", x.count(0), 3);
        due.is("that stand", x.count(1), 2);
        due.is("bytes", x.count(2), 5);
        due.is("of the list", x.count(3), 2);
        due.is("what 4", x.count(4), OUTSIDE);
        due.is("what -1", x.count(-1), OUTSIDE);
    }
}
