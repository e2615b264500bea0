/** Counts the calls of a test whose answer is not the one that is due, and tells texts to an object. */
final class Due {
    private final String test;
    private int wrong;

    Due(String test) {
        this.test = test;
    }

    void is(String call, long got, long want) {
        if (got != want) {
            wrong++;
            System.out.println(test + ": " + call + " answered " + got + ", due is " + want);
        }
    }

    /** BOOKS of a SHELF from left to right, their numbers with blanks between. */
    void shelfIs(OutOfPlace x, int s, String want) {
        textIs("shelf " + s, shelf(x, s), want);
    }

    void textIs(String call, String got, String want) {
        if (!got.equals(want)) {
            wrong++;
            System.out.println(test + ": " + call + " answered \"" + got + "\", due is \"" + want + "\"");
        }
    }

    void end() {
        System.out.println(test + (wrong == 0 ? ": all answers are as due" : ": " + wrong + " answers are not as due"));
        if (wrong != 0) {
            System.exit(1);
        }
    }

    static String shelf(OutOfPlace x, int s) {
        StringBuilder books = new StringBuilder();
        for (int i = 0; i < x.shelf(s, OutOfPlace.NONE); i++) {
            books.append(i == 0 ? "" : " ").append(x.shelf(s, i));
        }
        return books.toString();
    }

    static String mark(OutOfPlace x, int b) {
        StringBuilder bytes = new StringBuilder();
        for (int i = 0; i < x.mark(b, OutOfPlace.NONE); i++) {
            bytes.append((char) x.mark(b, i));
        }
        return bytes.toString();
    }

    static String guide(OutOfPlace x, int s) {
        StringBuilder bytes = new StringBuilder();
        for (int i = 0; i < x.guide(s, OutOfPlace.NONE); i++) {
            bytes.append((char) x.guide(s, i));
        }
        return bytes.toString();
    }

    static void feed(OutOfPlace x, String text) {
        for (int i = 0; i < text.length(); i += 8) {
            int n = Math.min(8, text.length() - i);
            long bytes = 0;
            for (int k = 0; k < n; k++) {
                bytes = bytes << 8 | text.charAt(i + k);
            }
            x.feed(n, bytes);
        }
    }

    static int tell(OutOfPlace x, String text) {
        feed(x, text);
        return x.books();
    }

    /** A new object that has been told a text. */
    static OutOfPlace told(String text) {
        OutOfPlace x = new OutOfPlace();
        tell(x, text);
        return x;
    }

    /** Sets BOOKS on a SHELF from left to right. */
    static void fill(OutOfPlace x, int s, int... books) {
        for (int b : books) {
            x.set(b, s, x.shelf(s, OutOfPlace.NONE));
        }
    }
}
