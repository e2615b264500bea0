/** Promises 16 to 19. */
public final class TidyTest {
    private static final int NONE = OutOfPlace.NONE;
    private static final int UNKNOWN = OutOfPlace.UNKNOWN;
    private static final int OUTSIDE = OutOfPlace.OUTSIDE;
    private static final int NOT = OutOfPlace.NOT;
    private static final Due due = new Due("TidyTest");

    public static void main(String[] args) {
        outOfOrder("", 0, 0, NONE);
        outOfOrder("0", 0, 0, NONE);
        outOfOrder("0 1 2 3 4 5", 0, 0, NONE);
        outOfOrder("3 0 1 2", 1 << 3, 3, 3);
        outOfOrder("1 0", 1, 1, 1);
        outOfOrder("2 3 0 1", 3, 4, 3);
        outOfOrder("0 3 1 2", 1 << 3, 2, 3);
        outOfOrder("0 2 1 3", 1 << 1, 1, 2);
        outOfOrder("5 4 3 2 1 0", 31, 15, 5);
        outOfOrder("1 5 2 4 3", (1 << 5) + (1 << 3), 4, 5);
        acrossShelves();
        onlyTheRightReadingCounts();
        tidyRefusals();
        mend();
        mendPushes();
        mendThatCannotBe();
        guessByReadings();
        guessAmongOthers();
        guessRefusals();
        due.end();
    }

    private static void outOfOrder(String books, int wrong, int pairs, int first) {
        OutOfPlace x = Due.told("a1;a2;a3;a4;a5;a6;");
        for (int i = 0; i < books.length(); i += 2) {
            Due.fill(x, 1, books.charAt(i) - '0');
        }
        due.is("wrong of " + books, x.wrong(), wrong);
        due.is("pairs of " + books, x.tidy(0), pairs);
        due.is("first wrong of " + books, x.tidy(1), first);
        due.shelfIs(x, 1, books);
    }

    private static void acrossShelves() {
        OutOfPlace x = Due.told("a1;a2;a3;a4;");
        Due.fill(x, 0, 1);
        Due.fill(x, 3, 2, 0);
        Due.fill(x, 7, 3);
        due.is("wrong", x.wrong(), 1);
        due.is("pairs", x.tidy(0), 2);
        due.is("first wrong", x.tidy(1), 2);
        OutOfPlace y = Due.told("a1;a2;");
        Due.fill(y, 2, 1);
        Due.fill(y, 4, 0);
        due.is("first wrong ends a shelf", y.tidy(1), 1);
    }

    /** In this order by every READING but the right one. */
    private static void onlyTheRightReadingCounts() {
        String[] rows = {"a1.9;a1.10;", "a1.b9;a1.b10;", "ab1;aa2;", "a10;a9;"};
        for (String text : rows) {
            OutOfPlace x = Due.told(text);
            Due.fill(x, 0, 0, 1);
            due.is("wrong of " + text, x.wrong(), 2);
            due.is("pairs of " + text, x.tidy(0), 1);
            due.is("first wrong of " + text, x.tidy(1), 0);
            due.is("mend of " + text, x.mend(), 1);
            due.shelfIs(x, 0, "1 0");
            x.take(0);
            x.set(0, 0, 0);
            due.is("lay of " + text, x.lay(0), 0);
            due.shelfIs(x, 0, "1 0");
        }
    }

    private static void tidyRefusals() {
        OutOfPlace x = new OutOfPlace();
        due.is("tidy 2", x.tidy(2), OUTSIDE);
        due.is("tidy -1", x.tidy(-1), OUTSIDE);
    }

    private static void mend() {
        OutOfPlace x = Due.told("a1;a2;a3;a4;a5;");
        due.is("none", x.mend(), 0);
        Due.fill(x, 2, 3, 0, 1);
        Due.fill(x, 4, 4, 2);
        due.is("mend", x.mend(), 2);
        due.shelfIs(x, 2, "0 1");
        due.shelfIs(x, 4, "2 3 4");
        due.is("again", x.mend(), 0);
        due.is("in order", x.wrong(), 0);
    }

    private static void mendPushes() {
        OutOfPlace x = Due.told("a1 w3;a2 w2;a3 w2;");
        x.width(0, 4);
        Due.fill(x, 0, 1, 2);
        Due.fill(x, 1, 0);
        due.is("mend", x.mend(), 1);
        due.shelfIs(x, 0, "0");
        due.shelfIs(x, 1, "1 2");
    }

    private static void mendThatCannotBe() {
        OutOfPlace x = Due.told("a1 w2;a9 w9;");
        for (int s = 2; s < 8; s++) {
            x.width(s, 1);
        }
        x.width(0, 9);
        x.width(1, 2);
        Due.fill(x, 0, 1);
        Due.fill(x, 1, 0);
        due.is("wrong", x.wrong(), 1);
        due.is("mend", x.mend(), NOT);
        due.shelfIs(x, 0, "1");
        due.shelfIs(x, 1, "0");
    }

    private static void guessByReadings() {
        guessOf("a1", "a2", 0);
        guessOf("a1.9", "a1.10", 1);
        guessOf("a1.b9", "a1.b10", 2);
        guessOf("ab1", "aa2", 3);
        guessOf("a10", "a9", 4);
        guessOf("b1", "a1", NONE);
    }

    /** GUESS of the second one, which stands behind the first. */
    private static void guessOf(String first, String second, int want) {
        OutOfPlace x = Due.told(first + ";" + second + ";");
        Due.fill(x, 0, 0);
        Due.fill(x, 6, 1);
        due.is("guess of " + second + " behind " + first, x.guess(1), want);
        due.is("guess of the one that stands", x.guess(0), 0);
    }

    private static void guessAmongOthers() {
        OutOfPlace x = Due.told("a1.5;a1.9;a1.10;a1.70;b1;a1;");
        Due.fill(x, 0, 0, 1, 2);
        Due.fill(x, 1, 4, 5);
        due.is("wrong", x.wrong(), (1 << 2) + (1 << 5));
        due.is("one of two out of place", x.guess(2), 1);
        due.is("by no reading", x.guess(5), NONE);
        due.is("in place", x.guess(4), 0);
    }

    private static void guessRefusals() {
        OutOfPlace x = Due.told("a1;");
        due.is("does not stand", x.guess(0), NOT);
        due.is("book 1", x.guess(1), UNKNOWN);
        due.is("book -1", x.guess(-1), UNKNOWN);
    }
}
