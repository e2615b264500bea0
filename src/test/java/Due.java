/** Counts the calls of a test whose answer is not the one that is due, and tells texts to an object. */
final class Due {
    private final String test;
    private String sentence = "";
    private int wrong;

    Due(String test) {
        this.test = test;
    }

    /** The words of the document that the answers looked at next hold to. */
    void sentence(String words) {
        sentence = " (" + words + ")";
    }

    /** Such words, and which edge of theirs is looked at. */
    void sentence(String words, String edge) {
        sentence = " (" + words + " - " + edge + ")";
    }

    void is(String call, long got, long want) {
        if (got != want) {
            wrong++;
            System.out.println(test + ": " + call + " answered " + got + ", due is " + want + sentence);
        }
    }

    /** BOOKS of a SHELF from left to right, their numbers with blanks between. */
    void shelfIs(OutOfPlace x, int s, String want) {
        textIs("shelf " + s, shelf(x, s), want);
    }

    /** BOOKS of the SHELVES from 0 on; those not told are empty. */
    void shelvesAre(OutOfPlace x, String... want) {
        for (int s = 0; s < 8; s++) {
            shelfIs(x, s, s < want.length ? want[s] : "");
        }
    }

    void textIs(String call, String got, String want) {
        if (!got.equals(want)) {
            wrong++;
            System.out.println(test + ": " + call + " answered \"" + got + "\", due is \"" + want + "\"" + sentence);
        }
    }

    /** A new object told this text has so many BOOKS and no FAULT. */
    void goodText(String text, int books) {
        OutOfPlace x = new OutOfPlace();
        is("books of " + text, tell(x, text), books);
        is("fault of " + text, x.fault(), OutOfPlace.NONE);
        is("count after " + text, x.count(0), books);
    }

    /** A new object told this text has no BOOKS and this FAULT. */
    void faultyText(String text, int kind, int place) {
        OutOfPlace x = new OutOfPlace();
        is("books of " + text, tell(x, text), -10 - kind);
        is("fault of " + text, x.fault(), place);
        is("count after " + text, x.count(0), 0);
        is("bytes after " + text, x.count(2), 0);
    }

    /** Whether the first mark is ahead of the second, by each READING; the second of the first is the contrary. */
    void aheadIs(String first, String second, String byReading) {
        OutOfPlace x = told(first + ";" + second + ";");
        for (int reading = 0; reading < 5; reading++) {
            int want = byReading.charAt(reading) - '0';
            is(first + " ahead of " + second + " by " + reading, x.ahead(0, 1, reading), want);
            is(second + " ahead of " + first + " by " + reading, x.ahead(1, 0, reading), 1 - want);
            is("first by " + reading, x.order(reading, 0), 1 - want);
            is("second by " + reading, x.order(reading, 1), want);
        }
    }

    void end() {
        System.out.println(test + (wrong == 0 ? ": all answers are as due" : ": " + wrong + " answers are not as due"));
        if (wrong != 0) {
            System.exit(1);
        }
    }

    static String shelf(OutOfPlace x, int s) {
        StringBuilder books = new StringBuilder();
        for (int i = 0; i < x.shelf(s, OutOfPlace.NONE); i++) {
            books.append(i == 0 ? "" : " ").append(x.shelf(s, i));
        }
        return books.toString();
    }

    static String mark(OutOfPlace x, int b) {
        StringBuilder bytes = new StringBuilder();
        for (int i = 0; i < x.mark(b, OutOfPlace.NONE); i++) {
            bytes.append((char) x.mark(b, i));
        }
        return bytes.toString();
    }

    static String guide(OutOfPlace x, int s) {
        StringBuilder bytes = new StringBuilder();
        for (int i = 0; i < x.guide(s, OutOfPlace.NONE); i++) {
            bytes.append((char) x.guide(s, i));
        }
        return bytes.toString();
    }

    static String blanks(int n) {
        return " ".repeat(n);
    }

    static void feed(OutOfPlace x, String text) {
        for (int i = 0; i < text.length(); i += 8) {
            int n = Math.min(8, text.length() - i);
            long bytes = 0;
            for (int k = 0; k < n; k++) {
                bytes = bytes << 8 | text.charAt(i + k);
            }
            x.feed(n, bytes);
        }
    }

    static int tell(OutOfPlace x, String text) {
        feed(x, text);
        return x.books();
    }

    /** A new object that has been told a text. */
    static OutOfPlace told(String text) {
        OutOfPlace x = new OutOfPlace();
        tell(x, text);
        return x;
    }

    /** a1 to a.. with this width, one behind the other. */
    static String row(int books, int width) {
        StringBuilder text = new StringBuilder();
        for (int n = 1; n <= books; n++) {
            text.append('a').append(n).append(width == 2 ? "" : " w" + width).append(';');
        }
        return text.toString();
    }

    /** Sets BOOKS on a SHELF from left to right. */
    static void fill(OutOfPlace x, int s, int... books) {
        for (int b : books) {
            x.set(b, s, x.shelf(s, OutOfPlace.NONE));
        }
    }

    /** WIDTHS of the SHELVES from 0 on; those not told become 1. */
    static void widths(OutOfPlace x, int... widths) {
        for (int s = 0; s < 8; s++) {
            x.width(s, s < widths.length ? widths[s] : 1);
        }
    }

    static void habits(OutOfPlace x, int... weights) {
        for (int reading = 0; reading < 5; reading++) {
            x.habit(reading, weights[reading]);
        }
    }

    /** All that an object tells of what is so, but for IMAGES and what THE TEXT says; some 60 calls. */
    static String state(OutOfPlace x) {
        StringBuilder all = new StringBuilder();
        for (int what = 0; what < 4; what++) {
            all.append(x.count(what)).append(' ');
        }
        all.append(x.fault());
        for (int s = 0; s < 8; s++) {
            all.append(" / ").append(shelf(x, s)).append(" room ").append(x.room(s));
        }
        int list = x.list(0);
        x.list(list);
        int seed = x.seed(0);
        x.seed(seed);
        all.append(" list ").append(list).append(" seed ").append(seed);
        for (int reading = 0; reading < 5; reading++) {
            int weight = x.habit(reading, 0);
            x.habit(reading, weight);
            all.append(' ').append(weight);
        }
        return all.toString();
    }
}
