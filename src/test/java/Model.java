import java.util.ArrayList;
import java.util.Arrays;
import java.util.HashMap;
import java.util.List;
import java.util.Map;
import java.util.regex.Matcher;
import java.util.regex.Pattern;

/**
 * The document told a second time, by other means: marks as texts, shelves as lists, what is fewest or
 * least by trying everything. ModelTest holds the program against it.
 */
final class Model {
    static final int NONE = -1;
    static final int NOT = -1003;

    final List<String> marks = new ArrayList<>();
    final List<Integer> thick = new ArrayList<>();
    List<List<Integer>> shelves = emptyShelves();
    final int[] widths = {30, 30, 30, 30, 30, 30, 30, 30};
    final int[] weights = {60, 10, 10, 10, 10};
    int list;
    long seed;
    int faultPlace = NONE;
    final List<List<List<Integer>>> imageShelves = new ArrayList<>(Arrays.asList(null, null));
    final int[] imageList = new int[2];
    final long[] imageSeed = new long[2];

    static List<List<Integer>> emptyShelves() {
        List<List<Integer>> all = new ArrayList<>();
        for (int s = 0; s < 8; s++) {
            all.add(new ArrayList<>());
        }
        return all;
    }

    static List<List<Integer>> copy(List<List<Integer>> from) {
        List<List<Integer>> all = new ArrayList<>();
        for (List<Integer> shelf : from) {
            all.add(new ArrayList<>(shelf));
        }
        return all;
    }

    // ---- texts: a byte cannot stand, where no text goes on so

    private static final String MARK = "([a-z]{1,2}[1-9][0-9]{0,3}(?:\\.[0-9]{1,4})?(?:\\.[a-z][0-9]{1,4})?)(?: +(y[0-9]{4}))?";
    private static final String CLAUSE = " *" + MARK + "(?: +w([1-9]))? *;";
    private static final Pattern TEXT = Pattern.compile("(?:" + CLAUSE + ")* *");
    private static final Pattern ONE = Pattern.compile(CLAUSE);
    private static final Pattern YEAR = Pattern.compile("[0-9] +y([0-9]{4})");
    private static final Pattern CLASS = Pattern.compile("(?:^|;) *([a-z])");
    private static final Pattern FULL_CLASS = Pattern.compile("(?:^|.*;) *[a-z]{2}$");
    private static final Pattern FULL_FIGURES = Pattern.compile("(?:^|.*;) *(?:[a-z]{1,2}[1-9][0-9]{3}"
            + "|[a-z]{1,2}[1-9][0-9]{0,3}\\.[0-9]{4}|[a-z]{1,2}[1-9][0-9]{0,3}(?:\\.[0-9]{1,4})?\\.[a-z][0-9]{4})$");

    int books(String text) {
        int[] fault = firstFault(text);
        faultPlace = fault[0] == 0 ? NONE : fault[1];
        if (fault[0] != 0) {
            return -10 - fault[0];
        }
        Matcher one = ONE.matcher(text);
        while (one.find()) {
            marks.add(markOf(one));
            thick.add(one.group(3) == null ? 2 : Integer.parseInt(one.group(3)));
        }
        return marks.size();
    }

    private static String markOf(Matcher one) {
        return one.group(1) + (one.group(2) == null ? "" : " " + one.group(2));
    }

    /** The first fault's number and place. */
    private int[] firstFault(String text) {
        int[] best = syntaxFault(text);
        int bound = best[0] == 0 ? text.length() : best[1];
        Matcher year = YEAR.matcher(text);
        while (year.find()) {
            int value = Integer.parseInt(year.group(1));
            if (year.end() <= bound && (value < 1000 || value > 2999)) {
                best = earlier(best, 3, year.start(1));
            }
        }
        Matcher cls = CLASS.matcher(text);
        int there = marks.size();
        while (cls.find()) {
            there++;
            if (there > 24 && cls.start(1) < bound) {
                best = earlier(best, 4, cls.start(1));
            }
        }
        List<String> seen = new ArrayList<>(marks);
        Matcher one = ONE.matcher(text);
        while (one.find() && one.end() <= bound) {
            if (seen.contains(markOf(one))) {
                best = earlier(best, 5, one.end() - 1);
            }
            seen.add(markOf(one));
        }
        return best;
    }

    private static int[] earlier(int[] best, int kind, int place) {
        return best[0] == 0 || place < best[1] || place == best[1] && kind < best[0] ? new int[] {kind, place} : best;
    }

    private static int[] syntaxFault(String text) {
        for (int n = 1; n <= text.length(); n++) {
            Matcher begin = TEXT.matcher(text.substring(0, n));
            if (!begin.matches() && !begin.hitEnd()) {
                String ahead = text.substring(0, n - 1);
                char sign = text.charAt(n - 1);
                boolean letter = sign >= 'a' && sign <= 'z' && FULL_CLASS.matcher(ahead).matches();
                boolean figure = sign >= '0' && sign <= '9' && FULL_FIGURES.matcher(ahead).matches();
                return new int[] {letter || figure ? 2 : 1, n - 1};
            }
        }
        return TEXT.matcher(text).matches() ? new int[] {0, NONE} : new int[] {1, text.length()};
    }

    // ---- readings: texts that stand in the order of the parts

    boolean ahead(int a, int b, int reading) {
        if (a == b) {
            return false;
        }
        String[] one = knownParts(a, reading);
        String[] other = knownParts(b, reading);
        for (int k = 0; k < one.length; k++) {
            int way = one[k].compareTo(other[k]);
            if (way != 0) {
                return way < 0;
            }
        }
        return a < b;
    }

    private final Map<Integer, String[]> known = new HashMap<>();

    private String[] knownParts(int b, int reading) {
        return known.computeIfAbsent(b * 5 + reading, key -> parts(marks.get(b), reading));
    }

    private static final Pattern PARTS =
            Pattern.compile("([a-z])([a-z]?)([0-9]+)(?:\\.([0-9]+))?(?:\\.([a-z])([0-9]+))?(?: y([0-9]+))?");

    private static String[] parts(String mark, int reading) {
        Matcher m = PARTS.matcher(mark);
        if (!m.matches()) {
            throw new IllegalStateException(mark);
        }
        String decimals = m.group(4) == null ? "" : m.group(4);
        String cutter = m.group(6) == null ? "" : m.group(6);
        return new String[] {
            m.group(1), reading == 3 ? "" : m.group(2),
            reading == 4 ? m.group(3) : whole(m.group(3)),
            reading == 1 ? whole(decimals.isEmpty() ? "0" : decimals) : decimals,
            m.group(5) == null ? "" : m.group(5),
            reading == 2 && !cutter.isEmpty() ? whole(cutter) : cutter,
            m.group(7) == null ? "" : m.group(7)
        };
    }

    private static String whole(String figures) {
        return String.format("%06d", Integer.parseInt(figures));
    }

    List<Integer> order(int reading) {
        List<Integer> all = new ArrayList<>();
        for (int b = 0; b < marks.size(); b++) {
            all.add(b);
        }
        all.sort((a, b) -> a.equals(b) ? 0 : ahead(a, b, reading) ? -1 : 1);
        return all;
    }

    // ---- the row

    List<Integer> row() {
        List<Integer> row = new ArrayList<>();
        shelves.forEach(row::addAll);
        return row;
    }

    int shelfOf(int b) {
        for (int s = 0; s < 8; s++) {
            if (shelves.get(s).contains(b)) {
                return s;
            }
        }
        return NONE;
    }

    int used(List<Integer> shelf) {
        return shelf.stream().mapToInt(thick::get).sum();
    }

    int left(int s) {
        return widths[s] - used(shelves.get(s));
    }

    int put(int b, int reading) {
        List<List<Integer>> before = copy(shelves);
        int s = spotShelf(b, reading);
        List<Integer> shelf = shelves.get(s);
        int at = 0;
        while (at < shelf.size() && ahead(shelf.get(at), b, reading)) {
            at++;
        }
        shelf.add(at, b);
        for (int on = s; on < 8; on++) {
            while (left(on) < 0) {
                if (on == 7) {
                    shelves = before;
                    return NOT;
                }
                List<Integer> full = shelves.get(on);
                shelves.get(on + 1).add(0, full.remove(full.size() - 1));
            }
        }
        return shelfOf(b);
    }

    /** The SHELF of the first that is not ahead, or of the last one. */
    private int spotShelf(int b, int reading) {
        int last = 0;
        for (int s = 0; s < 8; s++) {
            for (int other : shelves.get(s)) {
                last = s;
                if (!ahead(other, b, reading)) {
                    return s;
                }
            }
        }
        return last;
    }

    // ---- out of place, by all subsets of THE ROW; of a long one by the best way to go on from each place

    private static final int SHORT = 11;

    int wrong() {
        return row().size() <= SHORT ? wrongBySubsets() : wrongByWaysOn();
    }

    /** For each place the text of 1 (stands) and 0 from it on: the most 1, of like ones the greatest text. */
    private int wrongByWaysOn() {
        List<Integer> row = row();
        String[] ways = new String[row.size()];
        String best = "";
        for (int i = row.size() - 1; i >= 0; i--) {
            ways[i] = "1" + "0".repeat(row.size() - 1 - i);
            for (int k = i + 1; k < row.size(); k++) {
                if (ahead(row.get(i), row.get(k), 0)) {
                    ways[i] = better(ways[i], "1" + "0".repeat(k - i - 1) + ways[k]);
                }
            }
            best = better("0" + best, ways[i]);
        }
        int set = 0;
        for (int i = 0; i < row.size(); i++) {
            set |= best.charAt(i) == '0' ? 1 << row.get(i) : 0;
        }
        return set;
    }

    private static String better(String one, String other) {
        long more = one.chars().filter(sign -> sign == '1').count() - other.chars().filter(sign -> sign == '1').count();
        return more > 0 || more == 0 && one.compareTo(other) > 0 ? one : other;
    }

    private int wrongBySubsets() {
        List<Integer> row = row();
        int n = row.size();
        long best = -1;
        for (int kept = 0; kept < 1 << n; kept++) {
            if (inOrder(row, kept)) {
                // first the number kept, then the first places
                long worth = ((long) Integer.bitCount(kept) << 32) + (Integer.reverse(kept) >>> 1);
                best = Math.max(best, worth);
            }
        }
        int kept = Integer.reverse((int) best << 1);
        int set = 0;
        for (int i = 0; i < n; i++) {
            set |= (kept >> i & 1) == 0 ? 1 << row.get(i) : 0;
        }
        return set;
    }

    private boolean inOrder(List<Integer> row, int kept) {
        int last = NONE;
        for (int i = 0; i < row.size(); i++) {
            if ((kept >> i & 1) == 1) {
                if (last != NONE && !ahead(last, row.get(i), 0)) {
                    return false;
                }
                last = row.get(i);
            }
        }
        return true;
    }

    int pairs() {
        List<Integer> row = row();
        int n = 0;
        for (int i = 0; i < row.size(); i++) {
            for (int k = 0; k < i; k++) {
                n += ahead(row.get(i), row.get(k), 0) ? 1 : 0;
            }
        }
        return n;
    }

    int firstWrong() {
        List<Integer> row = row();
        for (int i = 1; i < row.size(); i++) {
            if (ahead(row.get(i), row.get(i - 1), 0)) {
                return row.get(i - 1);
            }
        }
        return NONE;
    }

    int mend() {
        int set = wrong();
        List<List<Integer>> before = copy(shelves);
        for (List<Integer> shelf : shelves) {
            shelf.removeIf(b -> (set >> b & 1) == 1);
        }
        for (int b = 0; b < 24; b++) {
            if ((set >> b & 1) == 1 && put(b, 0) == NOT) {
                shelves = before;
                return NOT;
            }
        }
        return Integer.bitCount(set);
    }

    int guess(int b) {
        if (shelfOf(b) == NONE) {
            return NOT;
        }
        int set = wrong();
        List<Integer> among = row();
        among.removeIf(other -> other != b && (set >> other & 1) == 1);
        int at = among.indexOf(b);
        for (int reading = 0; reading < 5; reading++) {
            boolean right = true;
            for (int i = 0; i < among.size(); i++) {
                right &= i == at || (i < at ? ahead(among.get(i), b, reading) : ahead(b, among.get(i), reading));
            }
            if (right) {
                return reading;
            }
        }
        return NONE;
    }

    // ---- room

    int lay(int s) {
        List<List<Integer>> before = copy(shelves);
        List<Integer> all = order(0);
        all.removeIf(b -> shelfOf(b) == NONE);
        shelves = emptyShelves();
        for (int on = 0; on < 8; on++) {
            List<Integer> shelf = shelves.get(on);
            while (!all.isEmpty()) {
                int rest = left(on) - thick.get(all.get(0));
                if (rest < 0 || rest < s && !shelf.isEmpty()) {
                    break;
                }
                shelf.add(all.remove(0));
            }
        }
        if (!all.isEmpty()) {
            shelves = before;
            return NOT;
        }
        return carried(before, shelves);
    }

    int carried(List<List<Integer>> before, List<List<Integer>> after) {
        int n = 0;
        for (int s = 0; s < 8; s++) {
            for (int b : before.get(s)) {
                n += after.get(s).contains(b) ? 0 : 1;
            }
        }
        return n;
    }

    int make(int s, int r, boolean does) {
        List<List<Integer>> before = copy(shelves);
        int[] carried = {NOT, NOT};
        List<List<List<Integer>>> after = new ArrayList<>();
        for (int way = 0; way < 2; way++) {
            shelves = copy(before);
            if (push(s, r, way == 0)) {
                carried[way] = carried(before, shelves);
            }
            after.add(shelves);
        }
        int way = carried[0] != NOT && (carried[1] == NOT || carried[0] <= carried[1]) ? 0 : 1;
        shelves = does && carried[way] != NOT ? after.get(way) : before;
        return carried[way];
    }

    private boolean push(int s, int r, boolean later) {
        int end = later ? 7 : 0;
        for (int on = s;; on += later ? 1 : -1) {
            List<Integer> shelf = shelves.get(on);
            while (left(on) < (on == s ? r : 0)) {
                if (on == end || shelf.isEmpty()) {
                    return false;
                }
                if (later) {
                    shelves.get(on + 1).add(0, shelf.remove(shelf.size() - 1));
                } else {
                    shelves.get(on - 1).add(shelf.remove(0));
                }
            }
            if (on == end) {
                return true;
            }
        }
    }

    /** The fewest that must be carried, of all ways to carry BOOKS one way and keep THE ROW; for short rows. */
    int fewest(int s, int r) {
        int later = fewest(row(), 0, 0, s, r, true, new int[8]);
        int earlier = fewest(row(), 0, 0, s, r, false, new int[8]);
        return Math.min(later, earlier) == Integer.MAX_VALUE ? NOT : Math.min(later, earlier);
    }

    private int fewest(List<Integer> row, int i, int least, int s, int r, boolean later, int[] load) {
        if (i == row.size()) {
            return widths[s] - load[s] >= r ? 0 : Integer.MAX_VALUE;
        }
        int b = row.get(i);
        int own = shelfOf(b);
        int best = Integer.MAX_VALUE;
        boolean mayMove = later ? own >= s : own <= s;
        for (int on = Math.max(least, later || !mayMove ? own : 0); on <= (later && mayMove ? 7 : own); on++) {
            if (load[on] + thick.get(b) <= widths[on]) {
                load[on] += thick.get(b);
                int rest = fewest(row, i + 1, on, s, r, later, load);
                load[on] -= thick.get(b);
                if (rest != Integer.MAX_VALUE) {
                    best = Math.min(best, rest + (on == own ? 0 : 1));
                }
            }
        }
        return best;
    }

    String guide(int s) {
        if (shelves.get(s).isEmpty()) {
            return "";
        }
        String mark = marks.get(shelves.get(s).get(0));
        for (int n = 1; n < mark.length(); n++) {
            String begin = mark.substring(0, n);
            boolean taken = false;
            for (int on = 0; on < s; on++) {
                taken |= shelves.get(on).stream().anyMatch(b -> marks.get(b).startsWith(begin));
            }
            if (!taken) {
                return begin;
            }
        }
        return mark;
    }

    // ---- search, draws

    int likely(int b, int s) {
        int all = Arrays.stream(weights).sum();
        int led = 0;
        for (int reading = 0; reading < 5; reading++) {
            led += spotShelf(b, reading) == s ? weights[reading] : 0;
        }
        return all == 0 ? 0 : (int) (led * 1000000L / all);
    }

    /** The COST, then the SHELVES. */
    List<Integer> search(int b) {
        List<Integer> open = new ArrayList<>();
        for (int s = 0; s < 8; s++) {
            if (likely(b, s) > 0) {
                open.add(s);
            }
        }
        List<Integer> best = new ArrayList<>();
        best.add(Integer.MAX_VALUE);
        tryOrders(b, open, new ArrayList<>(), best);
        return best;
    }

    private void tryOrders(int b, List<Integer> open, List<Integer> gone, List<Integer> best) {
        if (open.isEmpty()) {
            int cost = cost(b, gone);
            if (cost < best.get(0)) {
                best.clear();
                best.add(cost);
                best.addAll(gone);
            }
        }
        for (int s : new ArrayList<>(open)) {
            List<Integer> rest = new ArrayList<>(open);
            rest.remove((Integer) s);
            List<Integer> further = new ArrayList<>(gone);
            further.add(s);
            tryOrders(b, rest, further, best);
        }
    }

    private int cost(int b, List<Integer> tour) {
        long sum = 0;
        int steps = 0;
        int on = 0;
        for (int s : tour) {
            steps += Math.abs(s - on) + Math.max(1, shelves.get(s).size());
            sum += (long) likely(b, s) * steps;
            on = s;
        }
        return (int) (sum / 1000);
    }

    int shelve(int set) {
        int all = Arrays.stream(weights).sum();
        if (all == 0) {
            return NOT;
        }
        int n = 0;
        for (int b = 0; b < 24; b++) {
            if ((set >> b & 1) == 1 && shelfOf(b) == NONE) {
                seed = (seed * 1103515245L + 12345L) % 2147483648L;
                long drawn = seed / 65536 % all;
                int reading = 0;
                long sum = weights[0];
                while (sum <= drawn) {
                    reading++;
                    sum += weights[reading];
                }
                n += put(b, reading) == NOT ? 0 : 1;
            }
        }
        return n;
    }

    void keep(int i) {
        imageShelves.set(i, copy(shelves));
        imageList[i] = list;
        imageSeed[i] = seed;
    }

    int goBack(int i) {
        if (imageShelves.get(i) == null) {
            return NOT;
        }
        for (int s = 0; s < 8; s++) {
            if (used(imageShelves.get(i).get(s)) > widths[s]) {
                return NOT;
            }
        }
        shelves = copy(imageShelves.get(i));
        list = imageList[i];
        seed = imageSeed[i];
        return 1;
    }
}
