/** Promises 23 to 27. */
public final class SearchTest {
    private static final int NONE = OutOfPlace.NONE;
    private static final int UNKNOWN = OutOfPlace.UNKNOWN;
    private static final int OUTSIDE = OutOfPlace.OUTSIDE;
    private static final int NOT = OutOfPlace.NOT;
    private static final Due due = new Due("SearchTest");

    public static void main(String[] args) {
        list();
        stock();
        habit();
        likely();
        likelyWithoutPushing();
        likelyRefusals();
        searchOfTwoShelves();
        searchOfLikeOrders();
        searchOfOrdersAlikeWhenCut();
        searchWhereNothingIs();
        searchRefusals();
        due.end();
    }

    private static void list() {
        OutOfPlace x = Due.told("a1;a2;a3;");
        due.is("list", x.list(5), 0);
        due.is("list again", x.list(7), 5);
        due.is("none there", x.list(8), OUTSIDE);
        due.is("-1", x.list(-1), OUTSIDE);
        due.is("least", x.list(Integer.MIN_VALUE), OUTSIDE);
        due.is("unchanged", x.list(0), 7);
        due.is("empty", x.count(3), 0);
        due.is("no books", new OutOfPlace().list(1), OUTSIDE);
    }

    private static void stock() {
        OutOfPlace x = Due.told("a1;a2;a3;a4;");
        Due.fill(x, 1, 3, 1);
        x.list(3);
        due.is("of the list, not in", x.stock(0), 1);
        due.is("in, not of the list", x.stock(1), 8);
        due.is("what 2", x.stock(2), OUTSIDE);
        due.is("what -1", x.stock(-1), OUTSIDE);
    }

    private static void habit() {
        OutOfPlace x = new OutOfPlace();
        due.is("habit", x.habit(4, 99), 10);
        due.is("habit again", x.habit(4, 0), 99);
        due.is("100", x.habit(4, 100), OUTSIDE);
        due.is("-1", x.habit(4, -1), OUTSIDE);
        due.is("unchanged", x.habit(4, 1), 0);
        due.is("reading 5", x.habit(5, 100), UNKNOWN);
        due.is("reading -1", x.habit(-1, 0), UNKNOWN);
    }

    /** a1.5 on SHELF 2, a1.9 on SHELF 5, a1.10 missing: by READING 1 alone it is PUT on 5. */
    private static OutOfPlace decimals() {
        OutOfPlace x = Due.told("a1.5;a1.9;a1.10;");
        Due.fill(x, 2, 0);
        Due.fill(x, 5, 1);
        return x;
    }

    private static void likely() {
        OutOfPlace x = decimals();
        int[] want = {0, 0, 900000, 0, 0, 100000, 0, 0};
        for (int s = 0; s < 8; s++) {
            due.is("likely " + s, x.likely(2, s), want[s]);
        }
        x.habit(0, 9);
        for (int reading = 2; reading < 5; reading++) {
            x.habit(reading, 0);
        }
        x.habit(1, 99);
        due.is("cut", x.likely(2, 2), 83333);
        due.is("cut", x.likely(2, 5), 916666);
        due.is("nothing changes", x.count(1), 2);
        x.habit(0, 0);
        x.habit(1, 0);
        due.is("all weights 0", x.likely(2, 2), 0);
    }

    private static void likelyWithoutPushing() {
        OutOfPlace x = Due.told("a1;a2;");
        due.is("none stands", x.likely(0, 0), 1000000);
        x.width(3, 2);
        Due.fill(x, 3, 0);
        due.is("no room on it", x.likely(1, 3), 1000000);
        due.is("not the next", x.likely(1, 4), 0);
    }

    private static void likelyRefusals() {
        OutOfPlace x = decimals();
        due.is("stands", x.likely(0, 2), NOT);
        due.is("book 3", x.likely(3, 2), UNKNOWN);
        due.is("book -1", x.likely(-1, 2), UNKNOWN);
        due.is("shelf 8", x.likely(0, 8), UNKNOWN);
        due.is("shelf -1", x.likely(2, -1), UNKNOWN);
    }

    private static void searchOfTwoShelves() {
        OutOfPlace x = decimals();
        due.is("cost", x.search(2, NONE), 3400);
        due.is("first", x.search(2, 0), 2);
        due.is("second", x.search(2, 1), 5);
        due.is("third", x.search(2, 2), NONE);
        due.is("-2", x.search(2, -2), NONE);
        x.habit(0, 9);
        for (int reading = 2; reading < 5; reading++) {
            x.habit(reading, 0);
        }
        x.habit(1, 99);
        due.is("cost, cut at the end", x.search(2, NONE), 6333);
        due.is("far one first", x.search(2, 0), 5);
        due.is("near one behind", x.search(2, 1), 2);
    }

    /** Six BOOKS on SHELF 0, one on 1, LIKELY two to one: both orders have COST 6666. */
    private static void searchOfLikeOrders() {
        OutOfPlace x = Due.told("a1.3;a1.4;a1.5;a1.6;a1.7;a1.8;a1.9;a1.10;");
        Due.fill(x, 0, 0, 1, 2, 3, 4, 5);
        Due.fill(x, 1, 6);
        for (int reading = 0; reading < 5; reading++) {
            x.habit(reading, reading == 0 ? 2 : reading == 1 ? 1 : 0);
        }
        due.is("cost", x.search(7, NONE), 6666);
        due.is("first", x.search(7, 0), 0);
        due.is("second", x.search(7, 1), 1);
        x.take(5);
        due.is("a smaller shelf", x.search(7, 0), 0);
        x.put(5, 0);
        x.habit(1, 2);
        due.is("the second is likelier", x.search(7, 0), 1);
    }

    /** Sums 12764697 (0 first) and 12764691 (1 first): COST is 12764 both ways. */
    private static void searchOfOrdersAlikeWhenCut() {
        OutOfPlace x = Due.told("a1.10;a1.2;a1.3;a1.4;a1.5;a1.6;a1.7;a1.8;a1.9;a2;a3;a4;a5;a6;a7;a8;");
        Due.fill(x, 0, 1, 2, 3, 4, 5);
        Due.fill(x, 1, 6, 7, 8, 9, 10, 11, 12, 13, 14, 15);
        for (int reading = 0; reading < 5; reading++) {
            x.habit(reading, reading == 0 ? 5 : reading == 1 ? 12 : 0);
        }
        due.is("likely on 0", x.likely(0, 0), 294117);
        due.is("likely on 1", x.likely(0, 1), 705882);
        due.is("cost", x.search(0, NONE), 12764);
        due.is("the first of like ones", x.search(0, 0), 0);
    }

    private static void searchWhereNothingIs() {
        OutOfPlace x = Due.told("a1;");
        due.is("an empty shelf is a step", x.search(0, NONE), 1000);
        due.is("shelf 0", x.search(0, 0), 0);
        for (int reading = 0; reading < 5; reading++) {
            x.habit(reading, 0);
        }
        due.is("no cost", x.search(0, NONE), 0);
        due.is("no shelf", x.search(0, 0), NONE);
    }

    private static void searchRefusals() {
        OutOfPlace x = decimals();
        due.is("stands", x.search(0, NONE), NOT);
        due.is("book 3", x.search(3, 0), UNKNOWN);
        due.is("book -1", x.search(-1, 0), UNKNOWN);
    }
}
