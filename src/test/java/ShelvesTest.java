/** Promises 10 to 15. */
public final class ShelvesTest {
    private static final int NONE = OutOfPlace.NONE;
    private static final int UNKNOWN = OutOfPlace.UNKNOWN;
    private static final int OUTSIDE = OutOfPlace.OUTSIDE;
    private static final int NOT = OutOfPlace.NOT;
    private static final Due due = new Due("ShelvesTest");

    public static void main(String[] args) {
        width();
        shelfAndRoom();
        set();
        setRefusals();
        putByReadings();
        putPushes();
        putThatCannotBe();
        putRefusals();
        take();
        due.end();
    }

    private static void width() {
        OutOfPlace x = Due.told("a1;a2;");
        due.is("width", x.width(7, 5), 30);
        due.is("width again", x.width(7, 60), 5);
        due.is("least", x.width(7, 1), 60);
        due.is("0", x.width(7, 0), OUTSIDE);
        due.is("61", x.width(7, 61), OUTSIDE);
        due.is("shelf 8", x.width(8, 0), UNKNOWN);
        due.is("shelf -1", x.width(-1, 5), UNKNOWN);
        Due.fill(x, 0, 0, 1);
        due.is("wider books", x.width(0, 3), NOT);
        due.is("unchanged", x.room(0), 26);
        due.is("OUTSIDE before NOT", x.width(0, 0), OUTSIDE);
        due.is("as wide", x.width(0, 4), 30);
        due.is("no room left", x.room(0), 0);
    }

    private static void shelfAndRoom() {
        OutOfPlace x = Due.told("a1;a2 w9;a3 w5;");
        Due.fill(x, 6, 2, 0, 1);
        due.is("how many", x.shelf(6, NONE), 3);
        due.shelfIs(x, 6, "2 0 1");
        due.is("behind", x.shelf(6, 3), NONE);
        due.is("-2", x.shelf(6, -2), NONE);
        due.is("other shelf", x.shelf(5, 0), NONE);
        due.is("other shelf", x.shelf(7, NONE), 0);
        due.is("shelf 8", x.shelf(8, 0), UNKNOWN);
        due.is("shelf -1", x.shelf(-1, NONE), UNKNOWN);
        due.is("room", x.room(6), 14);
        due.is("other room", x.room(5), 30);
        due.is("room 8", x.room(8), UNKNOWN);
        due.is("room -1", x.room(-1), UNKNOWN);
    }

    private static void set() {
        OutOfPlace x = Due.told("a1;a2;a3;a4;a5;");
        due.is("on an empty shelf", x.set(3, 4, 0), 1);
        due.is("ahead", x.set(1, 4, 0), 1);
        due.is("between", x.set(0, 4, 1), 1);
        due.is("behind", x.set(2, 4, 3), 1);
        due.shelfIs(x, 4, "1 0 3 2");
        due.is("on an earlier shelf", x.set(4, 2, 0), 1);
        due.shelfIs(x, 2, "4");
        due.shelfIs(x, 4, "1 0 3 2");
    }

    private static void setRefusals() {
        OutOfPlace x = Due.told("a1;a2;a3 w3;");
        x.width(0, 4);
        x.set(0, 0, 0);
        due.is("book 3", x.set(3, 0, 0), UNKNOWN);
        due.is("book -1", x.set(-1, 0, 9), UNKNOWN);
        due.is("shelf 8", x.set(1, 8, 9), UNKNOWN);
        due.is("shelf -1", x.set(1, -1, 0), UNKNOWN);
        due.is("place -1", x.set(1, 0, -1), OUTSIDE);
        due.is("place 2", x.set(1, 0, 2), OUTSIDE);
        due.is("OUTSIDE before NOT", x.set(0, 0, 2), OUTSIDE);
        due.is("stands already", x.set(0, 1, 0), NOT);
        due.is("no room", x.set(2, 0, 0), NOT);
        due.shelfIs(x, 0, "0");
        due.is("just room", x.set(1, 0, 1), 1);
        due.is("nothing is pushed", x.set(2, 0, 0), NOT);
    }

    private static void putByReadings() {
        OutOfPlace x = Due.told("a1.5;a1.9;a1.10;a1;a2;");
        due.is("none stands", x.put(0, 0), 0);
        x.take(0);
        Due.fill(x, 2, 0);
        Due.fill(x, 5, 1);
        due.is("right", x.put(2, 0), 2);
        due.shelfIs(x, 2, "2 0");
        x.take(2);
        due.is("decimals as whole numbers", x.put(2, 1), 5);
        due.shelfIs(x, 5, "1 2");
        due.is("ahead of all", x.put(3, 0), 2);
        due.is("behind all", x.put(4, 0), 5);
        due.shelfIs(x, 2, "3 0");
        due.shelfIs(x, 5, "1 2 4");
        OutOfPlace y = Due.told("a1;a2;a3;");
        Due.fill(y, 1, 2, 0);
        due.is("ahead of the first not ahead", y.put(1, 0), 1);
        due.shelfIs(y, 1, "1 2 0");
    }

    private static void putPushes() {
        OutOfPlace x = Due.told("a1;a2;a3;a4 w9;a5;a6;");
        for (int s = 0; s < 3; s++) {
            x.width(s, 4);
        }
        due.is("a2", x.put(1, 0), 0);
        due.is("a5", x.put(4, 0), 0);
        due.is("a1 pushes a5", x.put(0, 0), 0);
        due.shelfIs(x, 0, "0 1");
        due.shelfIs(x, 1, "4");
        due.is("a3 ahead of a5", x.put(2, 0), 1);
        due.is("a6 is pushed itself", x.put(5, 0), 2);
        due.is("a4 is pushed far", x.put(3, 0), 3);
        due.shelfIs(x, 1, "2");
        due.shelfIs(x, 2, "");
        due.shelfIs(x, 3, "3 4 5");
    }

    private static void putThatCannotBe() {
        OutOfPlace x = Due.told("a1;a2;a3;");
        for (int s = 0; s < 8; s++) {
            x.width(s, 1);
        }
        due.is("no room anywhere", x.put(0, 0), NOT);
        due.is("does not stand", x.count(1), 0);
        x.width(7, 2);
        due.is("room on the last", x.put(1, 0), 7);
        due.is("behind", x.put(2, 0), NOT);
        due.is("ahead", x.put(0, 0), NOT);
        x.width(0, 2);
        due.is("none looks back", x.put(0, 0), NOT);
        due.shelfIs(x, 7, "1");
        due.is("one stands", x.count(1), 1);
    }

    private static void putRefusals() {
        OutOfPlace x = Due.told("a1;a2;");
        x.put(0, 0);
        due.is("book 2", x.put(2, 0), UNKNOWN);
        due.is("book -1", x.put(-1, 0), UNKNOWN);
        due.is("reading 5", x.put(0, 5), UNKNOWN);
        due.is("reading -1", x.put(1, -1), UNKNOWN);
        due.is("stands", x.put(0, 4), NOT);
    }

    private static void take() {
        OutOfPlace x = Due.told("a1;a2;a3;");
        Due.fill(x, 3, 2, 0, 1);
        due.is("take", x.take(0), 3);
        due.shelfIs(x, 3, "2 1");
        due.is("its shelf", x.book(0, 3), NONE);
        due.is("again", x.take(0), NOT);
        due.is("book 3", x.take(3), UNKNOWN);
        due.is("book -1", x.take(-1), UNKNOWN);
        due.is("room is back", x.room(3), 26);
    }
}
