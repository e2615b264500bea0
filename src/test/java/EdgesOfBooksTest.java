/** Each sentence that names an edge of BOOKS, MARKS, READINGS and orders: "Terms" 1, promises 5 to 9. */
public final class EdgesOfBooksTest {
    private static final int NONE = OutOfPlace.NONE;
    private static final int UNKNOWN = OutOfPlace.UNKNOWN;
    private static final int OUTSIDE = OutOfPlace.OUTSIDE;
    private static final int LEAST = Integer.MIN_VALUE;
    private static final int GREATEST = Integer.MAX_VALUE;
    private static final Due due = new Due("EdgesOfBooksTest");

    public static void main(String[] args) {
        constants();
        classLetterByLetter();
        secondLetterNotLookedAt();
        numberAsAWhole();
        numberByFigures();
        decimalsByFigures();
        decimalsAsAWhole();
        cutterByFigures();
        cutterAsAWhole();
        yearNoneAhead();
        firstPartThatIsOther();
        lesserBook();
        ofABook();
        doesNotStand();
        placeFromTheLeft();
        bookRefused();
        bytesOfAMark();
        markRefused();
        ofItself();
        aheadRefused();
        placesInOrder();
        orderOfNone();
        orderRefused();
        howMany();
        due.end();
    }

    private static void constants() {
        due.sentence("NONE is -1");
        due.is("NONE", NONE, -1);
        due.sentence("NONE = -1, UNKNOWN = -1001, OUTSIDE = -1002, NOT = -1003, FULL = -1004");
        due.is("UNKNOWN", UNKNOWN, -1001);
        due.is("OUTSIDE", OUTSIDE, -1002);
        due.is("NOT", OutOfPlace.NOT, -1003);
        due.is("FULL", OutOfPlace.FULL, -1004);
    }

    private static void classLetterByLetter() {
        due.sentence("class (LETTER by LETTER, one that is shorter ahead)");
        due.aheadIs("a9", "b1", "11111");
        due.aheadIs("y9", "z1", "11111");
        due.aheadIs("az9", "ba1", "11111");
        due.aheadIs("zy2", "zz1", "11101");
        due.aheadIs("a2", "aa1", "11101");
        due.aheadIs("z2", "za1", "11101");
        due.aheadIs("az2", "b1", "11111");
        due.aheadIs("zz1", "a2", "00000");
    }

    private static void secondLetterNotLookedAt() {
        due.sentence("3 the second LETTER of a class is not looked at");
        due.aheadIs("ab1", "aa1", "00010");
        due.aheadIs("az1", "a1", "00010");
        due.aheadIs("a1", "az1", "11111");
        due.aheadIs("az1.5", "aa1.6", "00010");
        due.aheadIs("az1", "ba1", "11111");
    }

    private static void numberAsAWhole() {
        due.sentence("number (as a whole number;");
        due.aheadIs("a1", "a2", "11111");
        due.aheadIs("a9998", "a9999", "11111");
        due.aheadIs("a9", "a10", "11110");
        due.aheadIs("a99", "a100", "11110");
        due.aheadIs("a999", "a1000", "11110");
        due.aheadIs("a2", "a1999", "11110");
    }

    private static void numberByFigures() {
        due.sentence("READING 4: figure by figure, one that is shorter ahead");
        due.aheadIs("a1", "a10", "11111");
        due.aheadIs("a10", "a100", "11111");
        due.aheadIs("a100", "a1000", "11111");
        due.aheadIs("a1000", "a1001", "11111");
        due.aheadIs("a1999", "a2", "00001");
        due.aheadIs("a1000", "a11", "00001");
        due.aheadIs("a8999", "a9", "00001");
        due.aheadIs("a10.9", "a9.1", "00001");
    }

    private static void decimalsByFigures() {
        due.sentence("decimals (figure by figure, one that is shorter ahead, so that none is ahead of all");
        due.aheadIs("a1", "a1.0", "11111");
        due.aheadIs("a1", "a1.0000", "11111");
        due.aheadIs("a1.0", "a1.00", "11111");
        due.aheadIs("a1.000", "a1.0000", "11111");
        due.aheadIs("a1.0000", "a1.0001", "11111");
        due.aheadIs("a1.0999", "a1.1", "10111");
        due.aheadIs("a1.1", "a1.10", "11111");
        due.aheadIs("a1.1999", "a1.2", "10111");
        due.aheadIs("a1.9998", "a1.9999", "11111");
        due.aheadIs("a1.0", "a1", "01000");
    }

    private static void decimalsAsAWhole() {
        due.sentence("READING 1: as a whole number, none as 0");
        due.aheadIs("a1.9", "a1.10", "01000");
        due.aheadIs("a1.99", "a1.0100", "01000");
        due.aheadIs("a1.999", "a1.1000", "01000");
        due.aheadIs("a1.0000", "a1.0", "01000");
        due.aheadIs("a1.0000", "a1", "01000");
        due.aheadIs("a1.b1", "a1.0.b0", "10111");
        due.aheadIs("a1.0.a9", "a1.b1", "01000");
        due.aheadIs("a1", "a1.0001", "11111");
    }

    private static void cutterByFigures() {
        due.sentence("cutter (none ahead; its LETTER, then figure by figure, one that is shorter ahead");
        due.aheadIs("a1", "a1.a0", "11111");
        due.aheadIs("a1.a0", "a1", "00000");
        due.aheadIs("a1.a0000 y1000", "a1 y2999", "00000");
        due.aheadIs("a1.5", "a1.5.a0000", "11111");
        due.aheadIs("a1.a9999", "a1.b0", "11111");
        due.aheadIs("a1.y9999", "a1.z0000", "11111");
        due.aheadIs("a1.a0", "a1.a00", "11111");
        due.aheadIs("a1.a000", "a1.a0000", "11111");
        due.aheadIs("a1.a0999", "a1.a1", "11011");
        due.aheadIs("a1.a1", "a1.a10", "11111");
        due.aheadIs("a1.a1999", "a1.a2", "11011");
        due.aheadIs("a1.a9998", "a1.a9999", "11111");
    }

    private static void cutterAsAWhole() {
        due.sentence("READING 2: its figures as a whole number");
        due.aheadIs("a1.a9", "a1.a10", "00100");
        due.aheadIs("a1.a999", "a1.a1000", "00100");
        due.aheadIs("a1.a0000", "a1.a0", "00100");
        due.aheadIs("a1.a07 y1990", "a1.a7 y1991", "11111");
        due.aheadIs("a1.a7 y1990", "a1.a07 y1991", "00100");
        due.aheadIs("a1.a9999", "a1.b0", "11111");
        due.aheadIs("a1", "a1.a0", "11111");
    }

    private static void yearNoneAhead() {
        due.sentence("year (none ahead)");
        due.aheadIs("a1", "a1 y1000", "11111");
        due.aheadIs("a1.5.b6", "a1.5.b6 y2999", "11111");
        due.aheadIs("a1 y1000", "a1 y1001", "11111");
        due.aheadIs("a1 y1999", "a1 y2000", "11111");
        due.aheadIs("a1 y2998", "a1 y2999", "11111");
        due.aheadIs("a1 y2999", "a1", "00000");
    }

    private static void firstPartThatIsOther() {
        due.sentence("by the first of these in which they are other");
        due.aheadIs("a9999.9999.z9999 y2999", "b1", "11111");
        due.aheadIs("a1.9999.z9999 y2999", "a2", "11111");
        due.aheadIs("a1.1.z9999 y2999", "a1.2", "11111");
        due.aheadIs("a1.1.a1 y2999", "a1.1.a2", "11111");
        due.aheadIs("a1.z9", "a1.0", "10111");
    }

    private static void lesserBook() {
        due.sentence("If none is other by it, the lesser BOOK is AHEAD");
        alike("a1.0", "a1", 1);
        alike("a1.7.b1 y1990", "a1.0007.b1 y1990", 1);
        alike("a1.b0", "a1.b0000", 2);
        alike("a1.5.b1", "a1.5.b01", 2);
        alike("ab1", "az1", 3);
        alike("a1", "az1", 3);
        alike("ab1.5.b1 y1990", "aa1.5.b1 y1990", 3);
    }

    private static void alike(String one, String other, int reading) {
        for (String text : new String[] {one + ";" + other + ";", other + ";" + one + ";"}) {
            OutOfPlace x = Due.told(text);
            due.is("lesser ahead in " + text, x.ahead(0, 1, reading), 1);
            due.is("greater ahead in " + text, x.ahead(1, 0, reading), 0);
            due.is("first of " + text, x.order(reading, 0), 0);
            due.is("second of " + text, x.order(reading, 1), 1);
        }
    }

    private static void ofABook() {
        due.sentence("Of a BOOK: what = 0 number, 1 year (NONE), 2 width, 3 SHELF (NONE: it does not stand), 4 its place there from the left (NONE)");
        OutOfPlace x = Due.told("zz9999.9999.z9999 y2999 w9;a1 y1000 w1;b2;");
        Due.fill(x, 7, 1, 0);
        Due.fill(x, 0, 2);
        int[][] want = {{9999, 2999, 9, 7, 1}, {1, 1000, 1, 7, 0}, {2, NONE, 2, 0, 0}};
        for (int b = 0; b < 3; b++) {
            for (int what = 0; what < 5; what++) {
                due.is("book " + b + " " + what, x.book(b, what), want[b][what]);
            }
        }
    }

    private static void doesNotStand() {
        due.sentence("3 SHELF (NONE: it does not stand), 4 its place there from the left (NONE)");
        OutOfPlace x = Due.told("a1;");
        due.is("at first", x.book(0, 3), NONE);
        due.is("at first", x.book(0, 4), NONE);
        x.set(0, 0, 0);
        due.is("on the first shelf", x.book(0, 3), 0);
        due.is("the first there", x.book(0, 4), 0);
        x.take(0);
        due.is("taken", x.book(0, 3), NONE);
        due.is("taken", x.book(0, 4), NONE);
    }

    private static void placeFromTheLeft() {
        due.sentence("4 its place there from the left");
        OutOfPlace x = Due.told(Due.row(24, 1));
        for (int b = 0; b < 24; b++) {
            x.set(b, b < 4 ? 3 : 5, 0);
        }
        for (int b = 0; b < 24; b++) {
            due.is("place of " + b, x.book(b, 4), b < 4 ? 3 - b : 23 - b);
        }
    }

    private static void bookRefused() {
        due.sentence("4 its place there from the left (NONE). UNKNOWN, OUTSIDE.");
        OutOfPlace x = Due.told("a1;a2;");
        for (int b : new int[] {-1, 2, 23, 24, LEAST, GREATEST}) {
            due.is("book " + b, x.book(b, 0), UNKNOWN);
            due.is("UNKNOWN first", x.book(b, 5), UNKNOWN);
        }
        for (int what : new int[] {-1, 5, LEAST, GREATEST}) {
            due.is("what " + what, x.book(1, what), OUTSIDE);
        }
    }

    private static void bytesOfAMark() {
        due.sentence("Byte i of a MARK; i = NONE: how many; NONE: not so many");
        String[] marks = {"a1", "zz9999.9999.z9999 y2999", "a1 y1990", "a1.b5", "ab10.05"};
        for (String mark : marks) {
            OutOfPlace x = Due.told(mark.replace(" ", "  ") + " w9 ;");
            due.is("how many of " + mark, x.mark(0, NONE), mark.length());
            for (int i = 0; i < mark.length(); i++) {
                due.is("byte " + i + " of " + mark, x.mark(0, i), mark.charAt(i));
            }
            for (int i : new int[] {mark.length(), mark.length() + 1, 23, 24, -2, LEAST, GREATEST}) {
                due.is("byte " + i + " of " + mark, x.mark(0, i), i < mark.length() && i >= 0 ? mark.charAt(i) : NONE);
            }
        }
    }

    private static void markRefused() {
        due.sentence("Byte i of a MARK; i = NONE: how many; NONE: not so many. UNKNOWN.");
        OutOfPlace x = Due.told("a1;");
        for (int b : new int[] {-1, 1, 24, LEAST, GREATEST}) {
            due.is("mark " + b, x.mark(b, 0), UNKNOWN);
            due.is("length of mark " + b, x.mark(b, NONE), UNKNOWN);
        }
    }

    private static void ofItself() {
        due.sentence("a BOOK of itself: 0");
        OutOfPlace x = Due.told("a1;b1;");
        for (int reading = 0; reading < 5; reading++) {
            due.is("book 0 by " + reading, x.ahead(0, 0, reading), 0);
            due.is("book 1 by " + reading, x.ahead(1, 1, reading), 0);
        }
    }

    private static void aheadRefused() {
        due.sentence("Whether BOOK a is AHEAD of b by a READING: 1, 0 (a BOOK of itself: 0). UNKNOWN.");
        OutOfPlace x = Due.told("a1;b1;");
        for (int b : new int[] {-1, 2, 24, LEAST, GREATEST}) {
            due.is("a " + b, x.ahead(b, 1, 0), UNKNOWN);
            due.is("b " + b, x.ahead(0, b, 0), UNKNOWN);
            due.is("both " + b, x.ahead(b, b, 0), UNKNOWN);
        }
        for (int reading : new int[] {-1, 5, LEAST, GREATEST}) {
            due.is("reading " + reading, x.ahead(0, 1, reading), UNKNOWN);
            due.is("of itself by " + reading, x.ahead(0, 0, reading), UNKNOWN);
        }
    }

    private static void placesInOrder() {
        due.sentence("Place i (0 on) of all BOOKS in order by a READING; NONE: not so many (i below 0, too)");
        OutOfPlace x = Due.told(Due.row(24, 2));
        Due.fill(x, 2, 20, 3);
        int[] byFigures = {0, 9, 10, 11, 12, 13, 14, 15, 16, 17, 18, 1, 19, 20, 21, 22, 23, 2, 3, 4, 5, 6, 7, 8};
        for (int i = 0; i < 24; i++) {
            due.is("right " + i, x.order(0, i), i);
            due.is("numbers by figures " + i, x.order(4, i), byFigures[i]);
        }
        for (int i : new int[] {24, 25, -1, -2, LEAST, GREATEST}) {
            due.is("place " + i, x.order(0, i), NONE);
        }
        OutOfPlace y = Due.told("b1;a1;");
        due.is("place 0 of two", y.order(3, 0), 1);
        due.is("place 1 of two", y.order(3, 1), 0);
        due.is("place 2 of two", y.order(3, 2), NONE);
    }

    private static void orderOfNone() {
        due.sentence("NONE: not so many (i below 0, too)", "no BOOKS");
        for (int reading = 0; reading < 5; reading++) {
            due.is("place 0", new OutOfPlace().order(reading, 0), NONE);
            due.is("place -1", new OutOfPlace().order(reading, -1), NONE);
        }
    }

    private static void orderRefused() {
        due.sentence("NONE: not so many (i below 0, too). UNKNOWN.");
        OutOfPlace x = Due.told("a1;");
        for (int reading : new int[] {-1, 5, LEAST, GREATEST}) {
            due.is("reading " + reading, x.order(reading, 0), UNKNOWN);
            due.is("UNKNOWN, not NONE", x.order(reading, -1), UNKNOWN);
        }
    }

    private static void howMany() {
        due.sentence("How many: 0 BOOKS, 1 that stand, 2 bytes of THE TEXT, 3 of THE LIST. OUTSIDE");
        OutOfPlace x = new OutOfPlace();
        Due.tell(x, Due.row(24, 1));
        Due.feed(x, Due.blanks(600));
        x.shelve((1 << 24) - 1);
        x.list((1 << 24) - 1);
        int[] want = {24, 24, 600, 24};
        for (int what = 0; what < 4; what++) {
            due.is("most of " + what, x.count(what), want[what]);
            due.is("none of " + what, new OutOfPlace().count(what), 0);
        }
        x.take(23);
        x.list(1 << 23);
        due.is("one is taken", x.count(1), 23);
        due.is("one is listed", x.count(3), 1);
        for (int what : new int[] {-1, 4, LEAST, GREATEST}) {
            due.is("what " + what, x.count(what), OUTSIDE);
        }
    }
}
