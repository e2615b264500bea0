/** Each sentence that names an edge of LAID ANEW, MAKE ROOM and GUIDES: "Terms" 3, promises 20 to 22. */
public final class EdgesOfRoomTest {
    private static final int NONE = OutOfPlace.NONE;
    private static final int UNKNOWN = OutOfPlace.UNKNOWN;
    private static final int OUTSIDE = OutOfPlace.OUTSIDE;
    private static final int NOT = OutOfPlace.NOT;
    private static final int LEAST = Integer.MIN_VALUE;
    private static final int GREATEST = Integer.MAX_VALUE;
    private static final int[] NO_SHELVES = {-1, 8, LEAST, GREATEST};
    private static final Due due = new Due("EdgesOfRoomTest");

    public static void main(String[] args) {
        leftOnEachShelf();
        layNone();
        rightOrderFromShelf0();
        tillLessWouldBeLeft();
        oneBookAtLeast();
        ifItHasRoomAtAll();
        noneBack();
        theyDoNotAllGo();
        carried();
        layRefused();
        boundsOfRoom();
        roomIsThere();
        lastOnesFirst();
        firstOnesToTheEnd();
        fewestOneWay();
        ofBothTheLess();
        laterIfAlike();
        countedOnce();
        staysAsItIs();
        neitherGoes();
        firstAndLastShelf();
        makeRefused();
        guideOfAFirstShelf();
        shortestBeginning();
        partsOfAGuide();
        allOfIt();
        earlierShelvesAlone();
        noBookNoBytes();
        guideRefused();
        due.end();
    }

    private static void leftOnEachShelf() {
        due.sentence("LAID ANEW with s left on each SHELF (0 .. 30)");
        OutOfPlace x = Due.told(Due.row(6, 5));
        Due.fill(x, 0, 0, 1, 2, 3, 4, 5);
        due.is("0 left", x.lay(0), 0);
        due.shelvesAre(x, "0 1 2 3 4 5");
        due.is("30 left", x.lay(30), 5);
        due.shelvesAre(x, "0", "1", "2", "3", "4", "5");
        due.is("0 left again", x.lay(0), 5);
        due.shelvesAre(x, "0 1 2 3 4 5");
    }

    private static void layNone() {
        due.sentence("all BOOKS that stand", "none stands");
        due.is("no books", new OutOfPlace().lay(0), 0);
        OutOfPlace x = Due.told(Due.row(3, 2));
        due.is("none stands", x.lay(30), 0);
        due.shelvesAre(x);
    }

    private static void rightOrderFromShelf0() {
        due.sentence("all BOOKS that stand, in the right order, from SHELF 0 on");
        OutOfPlace x = Due.told("a10;a9;a1.10;a1.9;ab1;aa2;a1.b9;a1.b10;b7;");
        Due.fill(x, 7, 1, 0, 2, 3);
        Due.fill(x, 5, 4, 5, 6, 7);
        due.is("all but one", x.lay(0), 8);
        due.shelvesAre(x, "7 6 2 3 1 0 5 4");
        due.is("it does not stand", x.book(8, 3), NONE);
    }

    private static void tillLessWouldBeLeft() {
        due.sentence("each SHELF till the next one would leave less than s");
        OutOfPlace x = Due.told(Due.row(4, 5));
        Due.fill(x, 0, 0, 1, 2, 3);
        due.is("just s is left", x.lay(20), 2);
        due.shelvesAre(x, "0 1", "2 3");
        due.is("one less would be left", x.lay(21), 3);
        due.shelvesAre(x, "0", "1", "2", "3");
        due.is("just 10", x.lay(10), 3);
        due.shelvesAre(x, "0 1 2 3");
        x.width(0, 20);
        due.is("just 0", x.lay(0), 0);
        due.is("not 0", x.lay(1), 1);
        due.shelvesAre(x, "0 1 2", "3");
    }

    private static void oneBookAtLeast() {
        due.sentence("(one BOOK at least", "less than s is left then");
        OutOfPlace x = Due.told("a1 w9;a2 w1;a3 w9;");
        Due.widths(x, 9, 30, 9);
        Due.fill(x, 1, 0, 1, 2);
        due.is("nothing is left on 0", x.lay(30), 2);
        due.shelvesAre(x, "0", "1", "2");
    }

    private static void ifItHasRoomAtAll() {
        due.sentence("(one BOOK at least, if it has room at all)");
        OutOfPlace x = Due.told("a1 w3;a2 w9;a3 w1;");
        Due.widths(x, 2, 3, 8, 9, 30);
        Due.fill(x, 4, 0, 1, 2);
        due.is("over narrow ones", x.lay(0), 2);
        due.shelvesAre(x, "", "0", "", "1", "2");
        due.is("each on its own", x.lay(30), 0);
        due.shelvesAre(x, "", "0", "", "1", "2");
    }

    private static void noneBack() {
        due.sentence("in the right order, from SHELF 0 on, each SHELF till the next one would leave less than s", "none goes back to one that was passed");
        OutOfPlace x = Due.told("a1 w3;a2 w2;a3 w1;");
        Due.widths(x, 4, 30);
        Due.fill(x, 1, 0, 1, 2);
        due.is("a3 does not go back to 0", x.lay(0), 1);
        due.shelvesAre(x, "0", "1 2");
    }

    private static void theyDoNotAllGo() {
        due.sentence("NOT: they do not all go");
        OutOfPlace x = Due.told(Due.row(9, 1));
        Due.fill(x, 0, 8, 7, 6, 5, 4, 3, 2, 1, 0);
        due.is("nine on eight", x.lay(30), NOT);
        due.shelvesAre(x, "8 7 6 5 4 3 2 1 0");
        x.take(4);
        due.is("eight on eight", x.lay(30), 7);
        due.shelvesAre(x, "0", "1", "2", "3", "5", "6", "7", "8");
        OutOfPlace y = Due.told("a1 w3;a2 w2;a3 w3;");
        Due.widths(y, 4, 3, 1);
        y.width(7, 2);
        Due.fill(y, 0, 0);
        Due.fill(y, 1, 2);
        Due.fill(y, 7, 1);
        due.is("in the right order there is no room", y.lay(0), NOT);
        due.shelvesAre(y, "0", "2", "", "", "", "", "", "1");
    }

    private static void carried() {
        due.sentence("CARRIED: how many BOOKS change their SHELF");
        OutOfPlace x = Due.told(Due.row(4, 2));
        Due.fill(x, 0, 3, 2, 1, 0);
        due.is("only another place", x.lay(0), 0);
        due.shelvesAre(x, "0 1 2 3");
        x.take(0);
        x.set(0, 7, 0);
        due.is("one", x.lay(0), 1);
        due.is("again", x.lay(0), 0);
        due.is("all but one", x.lay(30), 3);
        due.is("all that change, the other way", x.lay(26), 3);
        due.shelvesAre(x, "0 1", "2 3");
    }

    private static void layRefused() {
        due.sentence("LAID ANEW: CARRIED. OUTSIDE, NOT.", "OUTSIDE");
        OutOfPlace x = Due.told(Due.row(2, 2));
        Due.fill(x, 0, 1, 0);
        for (int s : new int[] {-1, 31, LEAST, GREATEST}) {
            due.is("lay " + s, x.lay(s), OUTSIDE);
        }
        due.shelvesAre(x, "1 0");
    }

    private static void boundsOfRoom() {
        due.sentence("MAKE ROOM of r (1 .. 30)");
        OutOfPlace x = Due.told("a1 w1;");
        Due.fill(x, 0, 0);
        due.is("1", x.make(0, 1, true), 0);
        due.is("29", x.make(0, 29, true), 0);
        due.shelvesAre(x, "0");
        due.is("30", x.make(0, 30, true), 1);
        due.shelvesAre(x, "", "0");
        for (int r : new int[] {0, 31, -1, LEAST, GREATEST}) {
            due.is("r " + r, x.make(1, r, true), OUTSIDE);
        }
        x.width(1, 60);
        due.is("31, though there is room", x.make(1, 31, true), OUTSIDE);
        due.shelvesAre(x, "", "0");
    }

    private static void roomIsThere() {
        due.sentence("the fewest that must be carried", "there is room: none");
        OutOfPlace x = Due.told(Due.row(3, 5));
        Due.fill(x, 4, 0, 1, 2);
        due.is("just room", x.make(4, 15, true), 0);
        due.shelvesAre(x, "", "", "", "", "0 1 2");
        due.is("one more", x.make(4, 16, true), 1);
        due.shelvesAre(x, "", "", "", "", "0 1", "2");
        due.is("an empty shelf", x.make(0, 30, true), 0);
    }

    private static void lastOnesFirst() {
        due.sentence("BOOKS are pushed to later SHELVES (last ones first)");
        OutOfPlace x = Due.told(Due.row(6, 3));
        Due.widths(x, 9, 12, 60);
        Due.fill(x, 0, 0, 1, 2);
        Due.fill(x, 1, 3, 4, 5);
        due.is("two, and one of the next", x.make(0, 4, true), 3);
        due.shelvesAre(x, "0", "1 2 3 4", "5");
    }

    private static void firstOnesToTheEnd() {
        due.sentence("or to earlier ones (first ones to the end of the one ahead)");
        OutOfPlace x = Due.told(Due.row(6, 3));
        Due.widths(x, 1, 1, 1, 1, 1, 60, 12, 9);
        Due.fill(x, 5, 0);
        Due.fill(x, 6, 1, 2);
        Due.fill(x, 7, 3, 4, 5);
        due.is("two", x.make(7, 6, true), 2);
        due.shelvesAre(x, "", "", "", "", "", "0", "1 2 3 4", "5");
        due.is("three", x.make(6, 9, true), 3);
        due.shelvesAre(x, "", "", "", "", "", "0 1 2 3", "4", "5");
        due.is("all of it", x.make(7, 9, true), 1);
        x.width(7, 1);
        due.is("and on", x.make(6, 12, true), 2);
        due.shelvesAre(x, "", "", "", "", "", "0 1 2 3 4 5");
        due.is("no further", x.make(5, 30, true), 0);
    }

    private static void fewestOneWay() {
        due.sentence("the fewest that must be carried one way");
        OutOfPlace x = Due.told("a1 w1;a2 w1;a3 w9;b1;");
        Due.fill(x, 0, 0, 1, 2);
        Due.fill(x, 1, 3);
        due.is("the wide one serves", x.make(0, 28, true), 1);
        due.shelvesAre(x, "0 1", "2 3");
        OutOfPlace y = Due.told("a1 w9;a2 w1;a3 w1;");
        Due.fill(y, 0, 0, 1, 2);
        due.is("all three, last ones first", y.make(0, 22, true), 3);
        due.shelvesAre(y, "", "0 1 2");
    }

    private static void ofBothTheLess() {
        due.sentence("of both the less");
        OutOfPlace x = Due.told("a1 w9;a2 w1;a3 w1;");
        Due.fill(x, 3, 0, 1, 2);
        due.is("earlier one, later three", x.make(3, 28, true), 1);
        due.shelvesAre(x, "", "", "0", "1 2");
        OutOfPlace y = Due.told("a1 w1;a2 w1;a3 w9;");
        Due.fill(y, 3, 0, 1, 2);
        due.is("later one, earlier three", y.make(3, 28, true), 1);
        due.shelvesAre(y, "", "", "", "0 1", "2");
        OutOfPlace z = Due.told("a1 w3;a2 w9;a3 w9;");
        Due.widths(z, 1, 2, 12, 9);
        Due.fill(z, 2, 0, 1);
        Due.fill(z, 3, 2);
        due.is("earlier does not go: later two, to the last", z.make(2, 9, true), NOT);
        z.width(5, 9);
        due.is("later goes", z.make(2, 9, true), 2);
        due.shelvesAre(z, "", "", "0", "1", "", "2");
    }

    private static void laterIfAlike() {
        due.sentence("later ones if alike");
        OutOfPlace x = Due.told(Due.row(3, 2));
        Due.fill(x, 3, 0, 1, 2);
        due.is("one either way", x.make(3, 26, true), 1);
        due.shelvesAre(x, "", "", "", "0 1", "2");
        due.is("both either way", x.make(3, 30, true), 2);
        due.shelvesAre(x, "", "", "", "", "0 1 2");
    }

    private static void countedOnce() {
        due.sentence("How many BOOKS must be CARRIED", "one that passes a SHELF is one");
        OutOfPlace x = Due.told("a1 w9;a2 w9;");
        Due.widths(x, 9, 8, 8, 9, 9);
        Due.fill(x, 0, 0);
        Due.fill(x, 3, 1);
        due.is("one passes two narrow shelves, one gives way", x.make(0, 9, true), 2);
        due.shelvesAre(x, "", "", "", "0", "1");
    }

    private static void staysAsItIs() {
        due.sentence("(does = false: it stays as it is)");
        OutOfPlace x = Due.told(Due.row(3, 2));
        Due.fill(x, 3, 0, 1, 2);
        due.is("one", x.make(3, 26, false), 1);
        due.is("two", x.make(3, 28, false), 2);
        due.is("three", x.make(3, 30, false), 3);
        due.shelvesAre(x, "", "", "", "0 1 2");
        due.is("UNKNOWN all the same", x.make(8, 1, false), UNKNOWN);
        due.is("OUTSIDE all the same", x.make(0, 0, false), OUTSIDE);
        x.width(0, 29);
        due.is("NOT all the same", x.make(0, 30, false), NOT);
    }

    private static void neitherGoes() {
        due.sentence("NOT: neither goes");
        OutOfPlace x = Due.told(Due.row(3, 2));
        Due.widths(x, 2, 4, 3);
        Due.fill(x, 0, 0);
        Due.fill(x, 1, 1, 2);
        due.is("one goes later", x.make(1, 1, false), 1);
        x.width(2, 1);
        due.is("no room later, nor earlier", x.make(1, 1, true), NOT);
        due.shelvesAre(x, "0", "1 2");
        due.is("as wide as an empty shelf", x.make(7, 1, true), 0);
        due.is("wider than an empty shelf", x.make(7, 2, true), NOT);
        due.is("wider than a shelf with books", x.make(1, 5, true), NOT);
        x.take(0);
        due.is("earlier goes", x.make(1, 1, true), 1);
        due.shelvesAre(x, "1", "2");
    }

    private static void firstAndLastShelf() {
        due.sentence("NOT: neither goes", "none is earlier than SHELF 0, none later than 7");
        OutOfPlace x = Due.told(Due.row(2, 2));
        Due.fill(x, 0, 0);
        Due.fill(x, 7, 1);
        due.is("0 goes later", x.make(0, 30, true), 1);
        due.is("7 goes earlier", x.make(7, 30, true), 1);
        due.shelvesAre(x, "", "0", "", "", "", "", "1");
        OutOfPlace y = Due.told(Due.row(2, 2));
        Due.widths(y, 2, 1, 1, 1, 1, 1, 1, 2);
        Due.fill(y, 0, 0);
        Due.fill(y, 7, 1);
        due.is("0: the last is full", y.make(0, 1, true), NOT);
        due.is("7: the first is full", y.make(7, 1, true), NOT);
        due.shelvesAre(y, "0", "", "", "", "", "", "", "1");
        y.take(1);
        due.is("0: all the way to 7", y.make(0, 2, true), 1);
        due.shelvesAre(y, "", "", "", "", "", "", "", "0");
        due.is("7: all the way to 0", y.make(7, 2, true), 1);
        due.shelvesAre(y, "0");
    }

    private static void makeRefused() {
        due.sentence("(does = false: it stays as it is). UNKNOWN, OUTSIDE, NOT.");
        OutOfPlace x = Due.told("a1;");
        Due.widths(x, 2);
        Due.fill(x, 0, 0);
        for (int s : NO_SHELVES) {
            due.is("shelf " + s, x.make(s, 1, true), UNKNOWN);
            due.is("UNKNOWN first", x.make(s, 0, true), UNKNOWN);
        }
        due.is("OUTSIDE before NOT", x.make(0, 31, true), OUTSIDE);
        due.is("NOT", x.make(0, 30, true), NOT);
        due.shelvesAre(x, "0");
    }

    private static void guideOfAFirstShelf() {
        due.sentence("the shortest beginning of its first BOOK's MARK", "no BOOK is earlier");
        OutOfPlace x = Due.told("ab12.34.c56 y1990;q7;");
        Due.fill(x, 0, 1);
        due.textIs("of shelf 0", Due.guide(x, 0), "q");
        Due.fill(x, 7, 0);
        due.textIs("other first letter", Due.guide(x, 7), "a");
        x.take(1);
        due.textIs("none earlier", Due.guide(x, 7), "a");
    }

    private static void shortestBeginning() {
        due.sentence("that no MARK of a BOOK on an earlier SHELF begins with");
        OutOfPlace x = Due.told("ab12;ab13;ab9;b1;ab1;");
        Due.fill(x, 0, 0);
        Due.fill(x, 1, 3);
        Due.fill(x, 2, 1);
        due.textIs("the last byte is other", Due.guide(x, 2), "ab13");
        Due.fill(x, 3, 2);
        due.textIs("a byte before the last", Due.guide(x, 3), "ab9");
        due.is("one byte", x.guide(1, NONE), 1);
        due.is("it", x.guide(1, 0), 'b');
        OutOfPlace y = Due.told("b1;c1;ab12;ab13;d1;");
        Due.fill(y, 1, 0, 1, 2);
        Due.fill(y, 2, 4);
        Due.fill(y, 3, 3);
        due.textIs("the last one of an earlier shelf", Due.guide(y, 3), "ab13");
        y.take(2);
        y.set(2, 1, 1);
        due.textIs("one between", Due.guide(y, 3), "ab13");
        y.take(2);
        due.textIs("other first letters", Due.guide(y, 3), "a");
    }

    private static void partsOfAGuide() {
        due.sentence("(its bytes: class, number, '.' and decimals, '.' and cutter, ' y' and year)");
        guideBehind("a1", "a1.5", "a1.");
        guideBehind("a1.5", "a1.5.b6", "a1.5.");
        guideBehind("a1.5", "a1.b6", "a1.b");
        guideBehind("a1", "a1 y1990", "a1 ");
        guideBehind("a1.b6", "a1.b6 y1990", "a1.b6 ");
        guideBehind("a1 y1990", "a1 y1991", "a1 y1991");
        guideBehind("a1 y1990", "a1 y2990", "a1 y2");
        guideBehind("a1", "aa1", "aa");
        guideBehind("aa1", "a1", "a1");
        guideBehind("a1.5.b6 y1990", "a1.5.b7", "a1.5.b7");
    }

    private static void guideBehind(String earlier, String mark, String want) {
        OutOfPlace x = Due.told(earlier + " w9;" + mark.replace(" ", "  ") + " w9;");
        Due.fill(x, 2, 0);
        Due.fill(x, 5, 1);
        due.textIs("guide of " + mark + " behind " + earlier, Due.guide(x, 5), want);
        due.is("its length", x.guide(5, NONE), want.length());
        due.is("behind it", x.guide(5, want.length()), NONE);
    }

    private static void allOfIt() {
        due.sentence("all of it, if there is none");
        guideBehind("a12", "a1", "a1");
        guideBehind("a1.5", "a1", "a1");
        guideBehind("a1.5.b6", "a1.5", "a1.5");
        guideBehind("a1 y1990", "a1", "a1");
        guideBehind("zz9999.9999.z9999 y2999", "zz9999.9999.z9999", "zz9999.9999.z9999");
        guideBehind("zz9999.9999.z9999 y2998", "zz9999.9999.z9999 y2999", "zz9999.9999.z9999 y2999");
    }

    private static void earlierShelvesAlone() {
        due.sentence("no MARK of a BOOK on an earlier SHELF", "its own and later ones do not count");
        OutOfPlace x = Due.told("a1;a12;a13;a14;");
        Due.fill(x, 4, 0, 1);
        Due.fill(x, 5, 2);
        due.textIs("not its own shelf, nor a later one", Due.guide(x, 4), "a");
        x.set(3, 0, 0);
        due.textIs("an earlier one", Due.guide(x, 4), "a1");
        x.take(0);
        due.textIs("its first BOOK now", Due.guide(x, 4), "a12");
        x.take(3);
        due.textIs("one that does not stand", Due.guide(x, 4), "a");
    }

    private static void noBookNoBytes() {
        due.sentence("0 bytes, if it has no BOOK");
        OutOfPlace x = Due.told("a1;");
        Due.fill(x, 3, 0);
        for (int s = 0; s < 8; s++) {
            due.is("how many of " + s, x.guide(s, NONE), s == 3 ? 1 : 0);
            due.is("byte 0 of " + s, x.guide(s, 0), s == 3 ? 'a' : NONE);
            due.is("byte 1 of " + s, x.guide(s, 1), NONE);
        }
    }

    private static void guideRefused() {
        due.sentence("Byte i of a GUIDE; i = NONE: how many; NONE: not so many. UNKNOWN");
        OutOfPlace x = Due.told("a1;");
        Due.fill(x, 0, 0);
        for (int i : new int[] {1, 2, -2, LEAST, GREATEST}) {
            due.is("byte " + i, x.guide(0, i), NONE);
        }
        for (int s : NO_SHELVES) {
            due.is("shelf " + s, x.guide(s, 0), UNKNOWN);
            due.is("how many of " + s, x.guide(s, NONE), UNKNOWN);
        }
    }
}
