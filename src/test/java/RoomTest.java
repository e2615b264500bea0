/** Promises 20 to 22. */
public final class RoomTest {
    private static final int NONE = OutOfPlace.NONE;
    private static final int UNKNOWN = OutOfPlace.UNKNOWN;
    private static final int OUTSIDE = OutOfPlace.OUTSIDE;
    private static final int NOT = OutOfPlace.NOT;
    private static final Due due = new Due("RoomTest");

    public static void main(String[] args) {
        lay();
        layWithNarrowShelves();
        layThatDoesNotGo();
        makeLaterAndEarlier();
        makeThatPassesShelves();
        makeAlike();
        makeThatDoesNotGo();
        guide();
        guideRefusals();
        due.end();
    }

    private static void lay() {
        OutOfPlace x = Due.told("a1 w5;a2 w5;a3 w5;a4 w5;a5;");
        due.is("none stands", x.lay(30), 0);
        Due.fill(x, 0, 3, 2, 1, 0);
        due.is("only put in order", x.lay(0), 0);
        due.shelfIs(x, 0, "0 1 2 3");
        due.is("20 left", x.lay(20), 2);
        due.shelfIs(x, 0, "0 1");
        due.shelfIs(x, 1, "2 3");
        due.is("30 left: one each", x.lay(30), 3);
        for (int s = 0; s < 4; s++) {
            due.shelfIs(x, s, "" + s);
        }
        due.is("-1", x.lay(-1), OUTSIDE);
        due.is("31", x.lay(31), OUTSIDE);
        due.is("one does not stand", x.count(1), 4);
    }

    private static void layWithNarrowShelves() {
        OutOfPlace x = Due.told("a1 w5;a2 w3;a3 w1;");
        x.width(0, 4);
        x.width(1, 5);
        x.width(2, 3);
        Due.fill(x, 7, 1, 0, 2);
        due.is("carried", x.lay(0), 3);
        due.shelfIs(x, 0, "");
        due.shelfIs(x, 1, "0");
        due.shelfIs(x, 2, "1");
        due.shelfIs(x, 3, "2");
    }

    private static void layThatDoesNotGo() {
        OutOfPlace x = Due.told("a1;a2;a3;a4;a5;a6;a7;a8;a9;");
        Due.fill(x, 0, 8, 7, 6, 5, 4, 3, 2, 1, 0);
        due.is("nine, one each", x.lay(30), NOT);
        due.shelfIs(x, 0, "8 7 6 5 4 3 2 1 0");
        due.is("29 left: one each, too", x.lay(29), NOT);
        due.is("26 left: two each", x.lay(26), 7);
        due.shelfIs(x, 4, "8");
        x.take(0);
        due.is("eight, one each", x.lay(30), 6);
        due.shelfIs(x, 7, "8");
    }

    private static void makeLaterAndEarlier() {
        OutOfPlace x = Due.told("a1 w3;a2 w3;a3 w3;a4 w3;a5 w3;a6 w3;");
        for (int s = 0; s < 3; s++) {
            x.width(s, 6);
            Due.fill(x, s, 2 * s, 2 * s + 1);
        }
        due.is("pushes on", x.make(1, 3, false), 2);
        due.shelfIs(x, 1, "2 3");
        due.is("does", x.make(1, 3, true), 2);
        due.shelfIs(x, 1, "2");
        due.shelfIs(x, 2, "3 4");
        due.shelfIs(x, 3, "5");
        due.is("room is there", x.make(1, 3, true), 0);
        x.take(0);
        x.width(3, 3);
        due.is("earlier is less", x.make(2, 3, true), 1);
        due.shelfIs(x, 1, "2 3");
        due.shelfIs(x, 2, "4");
        due.is("both push one on: later", x.make(2, 6, true), 2);
        due.shelfIs(x, 1, "2 3");
        due.shelfIs(x, 2, "");
        due.shelfIs(x, 3, "4");
        due.shelfIs(x, 4, "5");
    }

    private static void makeThatPassesShelves() {
        OutOfPlace x = Due.told("a1 w3;a2;");
        x.width(1, 1);
        Due.fill(x, 0, 0);
        due.is("one passes a narrow shelf", x.make(0, 30, true), 1);
        due.shelfIs(x, 1, "");
        due.shelfIs(x, 2, "0");
        for (int s = 3; s < 8; s++) {
            x.width(s, 1);
        }
        due.is("and back", x.make(2, 28, true), 1);
        due.shelfIs(x, 0, "0");
    }

    private static void makeAlike() {
        OutOfPlace x = Due.told("a1;a2;a3;");
        Due.fill(x, 3, 0, 1, 2);
        due.is("as many", x.make(3, 26, true), 1);
        due.shelfIs(x, 2, "");
        due.shelfIs(x, 3, "0 1");
        due.shelfIs(x, 4, "2");
        x.width(4, 2);
        due.is("earlier needs one, later two", x.make(3, 28, true), 1);
        due.shelfIs(x, 2, "0");
        due.shelfIs(x, 3, "1");
    }

    private static void makeThatDoesNotGo() {
        OutOfPlace x = Due.told("a1;a2;");
        x.width(0, 2);
        Due.fill(x, 0, 0);
        for (int s = 1; s < 8; s++) {
            x.width(s, 1);
        }
        due.is("nowhere to go", x.make(0, 1, true), NOT);
        due.shelfIs(x, 0, "0");
        due.is("wider than the shelf", x.make(7, 2, false), NOT);
        due.is("as wide as the shelf", x.make(7, 1, false), 0);
        due.is("r 0", x.make(0, 0, false), OUTSIDE);
        due.is("r 31", x.make(0, 31, true), OUTSIDE);
        due.is("shelf 8", x.make(8, 0, true), UNKNOWN);
        due.is("shelf -1", x.make(-1, 5, true), UNKNOWN);
    }

    private static void guide() {
        OutOfPlace x = Due.told("qa76.9;qa76.10;qa8;qa76;b1;qa76.9.c1 y1999;qa7.9;");
        Due.fill(x, 1, 0, 1);
        due.textIs("first shelf with books", Due.guide(x, 1), "q");
        due.is("empty shelf", x.guide(0, NONE), 0);
        due.is("its byte", x.guide(0, 0), NONE);
        Due.fill(x, 2, 2);
        due.textIs("third byte", Due.guide(x, 2), "qa8");
        Due.fill(x, 4, 3, 4);
        due.textIs("all of it", Due.guide(x, 4), "qa76");
        Due.fill(x, 5, 5);
        due.textIs("longer than an earlier one", Due.guide(x, 5), "qa76.9.");
        Due.fill(x, 0, 6);
        due.textIs("an earlier one is looked at", Due.guide(x, 1), "qa76");
        due.textIs("first shelf", Due.guide(x, 0), "q");
        x.take(5);
        Due.fill(x, 3, 4);
        due.is("length", x.guide(4, NONE), 4);
        x.take(3);
        x.take(4);
        x.set(4, 6, 0);
        due.textIs("other class", Due.guide(x, 6), "b");
    }

    private static void guideRefusals() {
        OutOfPlace x = Due.told("a1;");
        Due.fill(x, 0, 0);
        due.is("byte 0", x.guide(0, 0), 'a');
        due.is("byte 1", x.guide(0, 1), NONE);
        due.is("byte -2", x.guide(0, -2), NONE);
        due.is("shelf 8", x.guide(8, 0), UNKNOWN);
        due.is("shelf -1", x.guide(-1, NONE), UNKNOWN);
    }
}
