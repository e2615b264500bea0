/** Runs of calls with whatever arguments: none throws, and what is refused changes nothing. */
public final class ExtremesTest {
    private static final int[] ODD = {Integer.MIN_VALUE, -1005, -2, -1, 0, 1, 2, 4, 5, 7, 8, 9, 23, 24, 25, 30, 31, 32, 60, 61,
        99, 100, 255, 16777215, 16777216, Integer.MAX_VALUE};
    private static final Due due = new Due("ExtremesTest");
    private static long drawn = 7;

    public static void main(String[] args) {
        for (int run = 0; run < 40; run++) {
            run(run);
        }
        due.end();
    }

    private static int draw(int n) {
        drawn = drawn * 6364136223846793005L + 1442695040888963407L;
        return (int) ((drawn >>> 33) % n);
    }

    private static int odd() {
        return draw(3) == 0 ? ODD[draw(ODD.length)] : draw(12) - 1;
    }

    private static void run(int run) {
        OutOfPlace x = new OutOfPlace();
        for (int k = 0; k < run % 25; k++) {
            Due.tell(x, (char) ('a' + draw(4)) + "" + (k + 1) + (draw(2) == 0 ? " w" + (1 + draw(9)) : "") + ";");
        }
        for (int call = 0; call < 400; call++) {
            String before = Due.state(x);
            int which = draw(30);
            int answer = call(x, which);
            if (answer <= OutOfPlace.UNKNOWN) {
                due.textIs("state after refused call " + which, Due.state(x), before);
            }
        }
    }

    private static int call(OutOfPlace x, int which) {
        int a = odd();
        int b = odd();
        int c = odd();
        switch (which) {
            case 0: return x.feed(a, (long) b * c + ';');
            case 1: return x.books();
            case 2: return x.fault();
            case 3: return x.book(a, b);
            case 4: return x.mark(a, b);
            case 5: return x.ahead(a, b, c);
            case 6: return x.order(a, b);
            case 7: return x.count(a);
            case 8: return x.width(a, b);
            case 9: return x.shelf(a, b);
            case 10: return x.room(a);
            case 11: return x.set(a, b, c);
            case 12: return x.put(a, b);
            case 13: return x.take(a);
            case 14: return x.wrong();
            case 15: return x.tidy(a);
            case 16: return x.mend();
            case 17: return x.guess(a);
            case 18: return x.lay(a);
            case 19: return x.make(a, b, draw(2) == 0);
            default: return callMore(x, which, a, b);
        }
    }

    private static int callMore(OutOfPlace x, int which, int a, int b) {
        switch (which) {
            case 20: return x.guide(a, b);
            case 21: return x.list(a);
            case 22: return x.stock(a);
            case 23: return x.habit(a, b);
            case 24: return x.likely(a, b);
            case 25: return x.search(a, b);
            case 26: return x.seed(a);
            case 27: return x.shelve(a);
            case 28: return x.keep(a);
            default: return x.goBack(a);
        }
    }
}
