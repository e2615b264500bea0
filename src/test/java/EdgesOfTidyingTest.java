/** Each sentence that names an edge of what is out of place, PAIRS, MENDED and GUESS: "Terms" 2, promises 16 to 19. */
public final class EdgesOfTidyingTest {
    private static final int NONE = OutOfPlace.NONE;
    private static final int UNKNOWN = OutOfPlace.UNKNOWN;
    private static final int OUTSIDE = OutOfPlace.OUTSIDE;
    private static final int NOT = OutOfPlace.NOT;
    private static final int LEAST = Integer.MIN_VALUE;
    private static final int GREATEST = Integer.MAX_VALUE;
    private static final Due due = new Due("EdgesOfTidyingTest");

    public static void main(String[] args) {
        noneOrOneStands();
        noneIsOut();
        fewestBooks();
        firstRowStanding();
        allButOne();
        highestBits();
        overShelves();
        rightOrder();
        pairs();
        firstWrong();
        tidyRefused();
        mendNone();
        takenOutThenPut();
        putByNumbers();
        putByReading0();
        mendThatPushes();
        oneCannotBe();
        secondCannotBe();
        leastReading();
        standsRightAmongTheOthers();
        guessNone();
        guessAlone();
        guessRefused();
        due.end();
    }

    /** a1 to a6 told, these standing on SHELF 3. */
    private static OutOfPlace standing(int... books) {
        OutOfPlace x = Due.told(Due.row(6, 2));
        Due.fill(x, 3, books);
        return x;
    }

    /** All 24, the last one first. */
    private static OutOfPlace backwards() {
        OutOfPlace x = Due.told(Due.row(24, 1));
        for (int b = 0; b < 24; b++) {
            x.set(b, 0, 0);
        }
        return x;
    }

    private static void noneOrOneStands() {
        due.sentence("FIRST WRONG (1; NONE)", "none or one stands");
        for (OutOfPlace x : new OutOfPlace[] {new OutOfPlace(), standing(), standing(5)}) {
            due.is("wrong", x.wrong(), 0);
            due.is("pairs", x.tidy(0), 0);
            due.is("first wrong", x.tidy(1), NONE);
        }
    }

    private static void noneIsOut() {
        due.sentence("FIRST WRONG (1; NONE)", "all in the right order");
        OutOfPlace x = Due.told(Due.row(24, 1));
        for (int b = 0; b < 24; b++) {
            Due.fill(x, b / 3, b);
        }
        due.is("wrong", x.wrong(), 0);
        due.is("pairs", x.tidy(0), 0);
        due.is("first wrong", x.tidy(1), NONE);
        OutOfPlace y = standing(0, 2, 5);
        due.is("some do not stand", y.wrong(), 0);
        due.is("first wrong", y.tidy(1), NONE);
    }

    private static void fewestBooks() {
        due.sentence("OUT OF PLACE: the SET of fewest BOOKS of THE ROW without which the others are in the right order");
        due.is("one ahead of its place", standing(5, 0, 1, 2).wrong(), 1 << 5);
        due.is("one behind its place", standing(1, 2, 3, 0).wrong(), 1);
        due.is("one of three", standing(0, 5, 1, 2).wrong(), 1 << 5);
        due.is("two", standing(4, 5, 0, 1, 2).wrong(), (1 << 4) + (1 << 5));
        due.is("two, apart", standing(5, 0, 1, 4, 2, 3).wrong(), (1 << 5) + (1 << 4));
        due.is("one that does not stand is not of it", standing(2, 3, 1).wrong(), 1 << 1);
    }

    private static void firstRowStanding() {
        due.sentence("of like ones that which leaves the first row standing");
        due.is("1 0", standing(1, 0).wrong(), 1);
        due.is("0 2 1", standing(0, 2, 1).wrong(), 1 << 1);
        due.is("2 3 0 1", standing(2, 3, 0, 1).wrong(), 1 + 2);
        due.is("1 0 3 2", standing(1, 0, 3, 2).wrong(), 1 + 4);
        due.is("0 3 1 2", standing(0, 3, 1, 2).wrong(), 1 << 3);
        due.is("0 4 5 1 2: 4 stands", standing(0, 4, 5, 1, 2).wrong(), 2 + 4);
        due.is("3 5 4 0 1 2: five figures of three", standing(3, 5, 4, 0, 1, 2).wrong(), 8 + 16 + 32);
        due.is("2 4 1 3 5: 2 4 5, not 2 3 5", standing(2, 4, 1, 3, 5).wrong(), 2 + 8);
        due.is("2 0 3 1 4: 2 3 4", standing(2, 0, 3, 1, 4).wrong(), 1 + 2);
        due.is("4 1 2 5 3 0: 1 2 5", standing(4, 1, 2, 5, 3, 0).wrong(), 16 + 8 + 1);
        due.is("1 4 0 2 5 3: 1 4 5", standing(1, 4, 0, 2, 5, 3).wrong(), 1 + 4 + 8);
    }

    private static void allButOne() {
        due.sentence("(at the first place of THE ROW in which they are other, that one BOOK stands)");
        OutOfPlace x = backwards();
        due.is("all but the first of THE ROW", x.wrong(), (1 << 23) - 1);
        due.is("mended", x.mend(), 23);
        due.is("in order", x.wrong(), 0);
        due.is("first", x.shelf(0, 0), 0);
        due.is("last", x.shelf(0, 23), 23);
    }

    private static void highestBits() {
        due.sentence("A SET is a whole number, bit k for k");
        OutOfPlace x = Due.told(Due.row(24, 1));
        x.set(23, 0, 0);
        for (int b = 0; b < 23; b++) {
            Due.fill(x, 0, b);
        }
        due.is("the last one alone", x.wrong(), 1 << 23);
        x.take(23);
        x.take(0);
        x.set(0, 7, 0);
        due.is("the first one alone", x.wrong(), 1);
    }

    private static void overShelves() {
        due.sentence("SHELF by SHELF, from left to right", "one SHELF behind another");
        OutOfPlace x = Due.told(Due.row(4, 2));
        Due.fill(x, 0, 1);
        Due.fill(x, 3, 2);
        Due.fill(x, 6, 0);
        Due.fill(x, 7, 3);
        due.is("wrong", x.wrong(), 1);
        due.is("pairs", x.tidy(0), 2);
        due.is("the last of its shelf", x.tidy(1), 2);
    }

    private static void rightOrder() {
        due.sentence("in the right order");
        for (String text : new String[] {"a1.9;a1.10;", "a1.b9;a1.b10;", "ab1;aa2;", "a10;a9;", "a1.0;a1;"}) {
            OutOfPlace x = Due.told(text);
            Due.fill(x, 2, 0, 1);
            due.is("wrong of " + text, x.wrong(), 2);
            due.is("pairs of " + text, x.tidy(0), 1);
            due.is("first wrong of " + text, x.tidy(1), 0);
        }
    }

    private static void pairs() {
        due.sentence("PAIRS: how many pairs of THE ROW stand the wrong way round");
        due.is("all of 24", backwards().tidy(0), 24 * 23 / 2);
        due.is("neighbours", standing(0, 2, 1, 3).tidy(0), 1);
        due.is("first and last", standing(3, 1, 2, 0).tidy(0), 5);
        due.is("one over three", standing(5, 0, 1, 2).tidy(0), 3);
    }

    private static void firstWrong() {
        due.sentence("FIRST WRONG: the first BOOK that is not AHEAD of the one behind it");
        due.is("the first", backwards().tidy(1), 23);
        due.is("the last but one", standing(0, 1, 3, 2).tidy(1), 3);
        due.is("of two the first", standing(1, 0, 3, 2).tidy(1), 1);
        due.is("only the one behind it", standing(1, 3, 2, 0).tidy(1), 3);
    }

    private static void tidyRefused() {
        due.sentence("PAIRS (what = 0), FIRST WRONG (1; NONE). OUTSIDE.");
        for (int what : new int[] {-1, 2, LEAST, GREATEST}) {
            due.is("tidy " + what, standing(1, 0).tidy(what), OUTSIDE);
        }
    }

    private static void mendNone() {
        due.sentence("MENDED: how many BOOKS", "none");
        due.is("no books", new OutOfPlace().mend(), 0);
        due.is("none stands", standing().mend(), 0);
        OutOfPlace x = standing(0, 1, 4);
        due.is("in order", x.mend(), 0);
        due.shelvesAre(x, "", "", "", "0 1 4");
    }

    private static void takenOutThenPut() {
        due.sentence("MENDED: those OUT OF PLACE are taken out, then PUT");
        OutOfPlace x = Due.told("a1 w2;a2 w2;a3 w2;");
        Due.widths(x, 6);
        Due.fill(x, 0, 2, 0, 1);
        due.is("their own room serves", x.mend(), 1);
        due.shelvesAre(x, "0 1 2");
        OutOfPlace y = standing();
        Due.fill(y, 0, 5);
        Due.fill(y, 2, 1, 2);
        Due.fill(y, 4, 3, 0);
        due.is("a6 is out ahead of a1's being put", y.mend(), 2);
        due.shelvesAre(y, "", "", "0 1 2", "", "3 5");
    }

    /** By numbers a wide BOOK pushes the last one away ahead of its next, or behind it. */
    private static void putByNumbers() {
        due.sentence("PUT by READING 0, by numbers");
        OutOfPlace x = Due.told("a2 w2;a3 w1;a5 w2;a6;a7;a8;");
        x.width(1, 3);
        Due.fill(x, 1, 2);
        Due.fill(x, 3, 3, 4, 5, 0, 1);
        due.is("a2, then a3", x.mend(), 2);
        due.shelvesAre(x, "", "0", "1 2", "3 4 5");
        OutOfPlace y = Due.told("a3 w1;a2 w2;a5 w2;a6;a7;a8;");
        y.width(1, 3);
        Due.fill(y, 1, 2);
        Due.fill(y, 3, 3, 4, 5, 1, 0);
        due.is("a3, then a2", y.mend(), 2);
        due.shelvesAre(y, "", "1 0", "2", "3 4 5");
    }

    private static void putByReading0() {
        due.sentence("PUT by READING 0");
        OutOfPlace x = Due.told("a1.5;a1.9;a1.10;b1;");
        Due.fill(x, 4, 0, 1, 2, 3);
        due.is("one", x.mend(), 1);
        due.shelvesAre(x, "", "", "", "", "2 0 1 3");
    }

    private static void mendThatPushes() {
        due.sentence("then PUT by READING 0", "BOOKS are PUSHED");
        OutOfPlace x = Due.told("a1 w3;a2;a3;a4;");
        x.width(0, 4);
        Due.fill(x, 0, 1, 2);
        Due.fill(x, 1, 3, 0);
        due.is("one", x.mend(), 1);
        due.shelvesAre(x, "0", "1 2 3");
    }

    private static void oneCannotBe() {
        due.sentence("NOT, if one cannot be");
        OutOfPlace x = Due.told("a1 w2;a2 w9;");
        Due.widths(x, 9, 2);
        Due.fill(x, 0, 1);
        Due.fill(x, 1, 0);
        due.is("no room for a2 behind", x.mend(), NOT);
        due.shelvesAre(x, "1", "0");
        x.width(7, 9);
        due.is("just room", x.mend(), 1);
        due.shelvesAre(x, "0", "", "", "", "", "", "", "1");
    }

    private static void secondCannotBe() {
        due.sentence("NOT, if one cannot be", "the second, when the first could");
        OutOfPlace x = Due.told("a1 w2;a2 w3;a3 w1;a4 w1;a5 w9;");
        Due.widths(x, 14, 2, 3);
        Due.fill(x, 0, 2, 3, 4);
        Due.fill(x, 1, 0);
        Due.fill(x, 2, 1);
        due.is("wrong", x.wrong(), 3);
        due.is("a1 could be, a2 not", x.mend(), NOT);
        due.shelvesAre(x, "2 3 4", "0", "1");
        x.take(1);
        due.is("a1 alone", x.mend(), 1);
        due.shelvesAre(x, "0 2 3 4");
    }

    private static void leastReading() {
        due.sentence("GUESS of a BOOK that stands: the least READING by which it stands right");
        String[] rows = {"a1;a2;", "a1.9;a1.10;", "a1.b9;a1.b10;", "ab1;aa2;", "a10;a9;"};
        for (int reading = 0; reading < 5; reading++) {
            OutOfPlace x = Due.told(rows[reading]);
            Due.fill(x, 0, 0);
            Due.fill(x, 7, 1);
            due.is("guess of " + rows[reading], x.guess(1), reading);
        }
        OutOfPlace y = Due.told("a9.9.b9;a10.10.b10;a9.10.b10;");
        Due.fill(y, 0, 0, 2);
        due.is("by 1, not by 2", y.guess(2), 1);
        OutOfPlace z = Due.told("ab1.9;aa2.10;ab1.10;");
        Due.fill(z, 0, 0, 1);
        due.is("by 3 alone", z.guess(1), 3);
    }

    private static void standsRightAmongTheOthers() {
        due.sentence("among the others that stand and are not OUT OF PLACE (all ahead of it in THE ROW are AHEAD of it by that READING, it of all behind)");
        OutOfPlace x = standing(0, 1, 5, 2, 4, 3);
        due.is("wrong", x.wrong(), (1 << 5) + (1 << 3));
        due.is("one in place behind one out of place", x.guess(2), 0);
        due.is("one in place ahead of one out of place", x.guess(4), 0);
        OutOfPlace y = Due.told("a1.5;a1.9;a1.10;a1.70;b1;");
        Due.fill(y, 0, 0, 1, 2, 4);
        due.is("behind those ahead", y.guess(2), 1);
        y.take(2);
        y.set(2, 0, 3);
        due.is("behind b1 by no reading", y.guess(2), NONE);
        y.take(2);
        y.set(2, 0, 0);
        due.is("ahead of a1.5 rightly", y.guess(2), 0);
    }

    private static void guessNone() {
        due.sentence("GUESS; NONE");
        due.is("behind", standing(1, 2, 0).guess(0), NONE);
        due.is("ahead", standing(5, 0, 1).guess(5), NONE);
        OutOfPlace x = Due.told("b1;a1;c1;d1;");
        Due.fill(x, 0, 0);
        Due.fill(x, 4, 2, 3);
        Due.fill(x, 7, 1);
        due.is("on the last shelf", x.guess(1), NONE);
    }

    private static void guessAlone() {
        due.sentence("among the others that stand", "none");
        for (int b = 0; b < 6; b++) {
            due.is("book " + b + " alone", standing(b).guess(b), 0);
        }
        OutOfPlace x = backwards();
        due.is("the one that stands right", x.guess(23), 0);
        due.is("behind it", x.guess(0), NONE);
        due.is("a20 behind a24", x.guess(19), NONE);
        due.is("a3 behind a24", x.guess(2), 4);
    }

    private static void guessRefused() {
        due.sentence("GUESS; NONE. UNKNOWN, NOT: it does not stand.");
        OutOfPlace x = standing(0);
        for (int b : new int[] {-1, 6, 24, LEAST, GREATEST}) {
            due.is("book " + b, x.guess(b), UNKNOWN);
        }
        due.is("it never stood", x.guess(1), NOT);
        x.take(0);
        due.is("it was taken", x.guess(0), NOT);
    }
}
