/**
 * Books on shelves by their marks: told in a text, put by ways to read a mark rightly or wrongly,
 * those out of place found and moved back, room made, guides, a list, searches and draws.
 *
 * The words in capitals are those of the document. Everything is made in the constructor and used
 * again, for all calls of a run live in one room.
 */
public final class OutOfPlace {
    public static final int NONE = -1;
    public static final int UNKNOWN = -1001;
    public static final int OUTSIDE = -1002;
    public static final int NOT = -1003;
    public static final int FULL = -1004;

    private static final int BOOKS = 24;
    private static final int SHELVES = 8;
    private static final int READINGS = 5;
    private static final int IMAGES = 2;

    private static final int TEXT_LIMIT = 600;
    private static final int FEED_LIMIT = 8;
    /** The longest MARK: two letters, number, decimals, cutter, year with what parts them. */
    private static final int MARK_LIMIT = 23;
    private static final int FIGURES = 4;
    private static final int FIRST_YEAR = 1000;
    private static final int LAST_YEAR = 2999;
    private static final int UNTOLD_WIDTH = 2;

    private static final int WIDTH_LIMIT = 60;
    private static final int FIRST_WIDTH = 30;
    private static final int ROOM_LIMIT = 30;

    private static final int WEIGHT_LIMIT = 99;
    private static final int FIRST_WEIGHT = 10;
    private static final int FIRST_RIGHT_WEIGHT = 60;
    private static final int MILLION = 1000000;
    private static final int COST_UNIT = 1000;
    /** READINGS lead to five SHELVES at most, so a SEARCH has no more orders than these. */
    private static final int TOURS = 120;

    private static final long DRAW_FACTOR = 1103515245L;
    private static final long DRAW_ADDEND = 12345L;
    private static final long DRAW_MASK = 2147483647L;
    private static final int DRAW_CUT = 65536;

    private static final int RIGHT = 0;
    private static final int DECIMALS_WHOLE = 1;
    private static final int CUTTERS_WHOLE = 2;
    private static final int ONE_LETTER = 3;
    private static final int NUMBERS_BY_FIGURES = 4;

    private static final int CANNOT_STAND = 1;
    private static final int TOO_MANY_SIGNS = 2;
    private static final int YEAR_OUTSIDE = 3;
    private static final int TOO_MANY_BOOKS = 4;
    private static final int MARK_THERE = 5;
    private static final int FAULT_BASE = -10;

    private static final int LATER = 1;
    private static final int EARLIER = -1;

    private final Bytes text = new Bytes(TEXT_LIMIT);
    private final Catalogue catalogue = new Catalogue();
    private final Shelves shelves = new Shelves();
    private final Row row = new Row();
    /** What is tried is tried here, so that what is refused changes nothing. */
    private final Row trial = new Row();
    private final Tidying tidying = new Tidying();
    private final Habits habits = new Habits();
    private final Search searching = new Search();
    private final Image image0 = new Image();
    private final Image image1 = new Image();
    private int faultPlace;
    private int theList;
    private int theSeed;

    public OutOfPlace() {
        faultPlace = NONE;
        theList = 0;
        theSeed = 0;
    }

    // ---- books

    public int feed(int n, long bytes) {
        if (n < 1 || n > FEED_LIMIT) {
            return OUTSIDE;
        }
        if (text.size() + n > TEXT_LIMIT) {
            return FULL;
        }
        for (int k = n - 1; k >= 0; k--) {
            text.append((int) ((bytes >>> (8 * k)) & 255L));
        }
        return text.size();
    }

    public int books() {
        Parser parser = new Parser(text, catalogue);
        int kind = parser.parse();
        faultPlace = parser.faultAt();
        if (kind == 0) {
            catalogue.acceptDrafts();
        } else {
            catalogue.dropDrafts();
        }
        text.clear();
        return kind == 0 ? catalogue.size() : FAULT_BASE - kind;
    }

    public int fault() {
        return faultPlace;
    }

    public int book(int b, int what) {
        if (!catalogue.has(b)) {
            return UNKNOWN;
        }
        switch (what) {
            case 0:
                return catalogue.of(b).number;
            case 1:
                return catalogue.of(b).year;
            case 2:
                return catalogue.of(b).thickness;
            case 3:
                return row.shelfOf(b);
            case 4:
                return row.stands(b) ? row.indexOf(b) - row.start(row.shelfOf(b)) : NONE;
            default:
                return OUTSIDE;
        }
    }

    public int mark(int b, int i) {
        if (!catalogue.has(b)) {
            return UNKNOWN;
        }
        Bytes bytes = catalogue.of(b).signs;
        return i == NONE ? bytes.size() : bytes.get(i);
    }

    public int ahead(int a, int b, int reading) {
        if (!catalogue.has(a) || !catalogue.has(b) || !isReading(reading)) {
            return UNKNOWN;
        }
        return catalogue.isAhead(a, b, reading) ? 1 : 0;
    }

    public int order(int reading, int i) {
        if (!isReading(reading)) {
            return UNKNOWN;
        }
        trial.clear();
        for (int b = 0; b < catalogue.size(); b++) {
            trial.insert(trial.spotFor(catalogue, b, reading), b, 0);
        }
        return trial.bookAt(i);
    }

    public int count(int what) {
        switch (what) {
            case 0:
                return catalogue.size();
            case 1:
                return row.size();
            case 2:
                return text.size();
            case 3:
                return Integer.bitCount(theList);
            default:
                return OUTSIDE;
        }
    }

    // ---- shelves

    public int width(int s, int v) {
        if (!isShelf(s)) {
            return UNKNOWN;
        }
        if (v < 1 || v > WIDTH_LIMIT) {
            return OUTSIDE;
        }
        int was = shelves.widthOf(s);
        if (was - shelves.left(row, catalogue, s) > v) {
            return NOT;
        }
        shelves.widen(s, v);
        return was;
    }

    public int shelf(int s, int i) {
        if (!isShelf(s)) {
            return UNKNOWN;
        }
        return i == NONE ? row.amount(s) : row.onShelf(s, i);
    }

    public int room(int s) {
        return isShelf(s) ? shelves.left(row, catalogue, s) : UNKNOWN;
    }

    public int set(int b, int s, int i) {
        if (!catalogue.has(b) || !isShelf(s)) {
            return UNKNOWN;
        }
        if (i < 0 || i > row.amount(s)) {
            return OUTSIDE;
        }
        if (row.stands(b) || shelves.left(row, catalogue, s) < catalogue.of(b).thickness) {
            return NOT;
        }
        row.insert(row.start(s) + i, b, s);
        return 1;
    }

    public int put(int b, int reading) {
        if (!catalogue.has(b) || !isReading(reading)) {
            return UNKNOWN;
        }
        if (row.stands(b) || !putIfItGoes(b, reading)) {
            return NOT;
        }
        return row.shelfOf(b);
    }

    public int take(int b) {
        if (!catalogue.has(b)) {
            return UNKNOWN;
        }
        if (!row.stands(b)) {
            return NOT;
        }
        int s = row.shelfOf(b);
        row.remove(b);
        return s;
    }

    // ---- out of place

    public int wrong() {
        return tidying.outOfPlace(row, catalogue);
    }

    public int tidy(int what) {
        switch (what) {
            case 0:
                return tidying.pairs(row, catalogue);
            case 1:
                return tidying.firstWrong(row, catalogue);
            default:
                return OUTSIDE;
        }
    }

    public int mend() {
        int set = tidying.outOfPlace(row, catalogue);
        trial.copyFrom(row);
        for (int b = 0; b < BOOKS; b++) {
            if (isIn(set, b)) {
                trial.remove(b);
            }
        }
        for (int b = 0; b < BOOKS; b++) {
            if (isIn(set, b) && !shelves.putBy(trial, catalogue, b, RIGHT)) {
                return NOT;
            }
        }
        row.copyFrom(trial);
        return Integer.bitCount(set);
    }

    public int guess(int b) {
        if (!catalogue.has(b)) {
            return UNKNOWN;
        }
        return row.stands(b) ? tidying.readingOf(row, catalogue, b) : NOT;
    }

    // ---- room, guides

    public int lay(int s) {
        if (s < 0 || s > ROOM_LIMIT) {
            return OUTSIDE;
        }
        if (!shelves.layAnew(trial, row, catalogue, s)) {
            return NOT;
        }
        int carried = row.carriedTo(trial);
        row.copyFrom(trial);
        return carried;
    }

    public int make(int s, int r, boolean does) {
        if (!isShelf(s)) {
            return UNKNOWN;
        }
        if (r < 1 || r > ROOM_LIMIT) {
            return OUTSIDE;
        }
        int later = tryRoom(s, r, LATER);
        int earlier = tryRoom(s, r, EARLIER);
        boolean goesEarlier = earlier != NOT && (later == NOT || earlier < later);
        int carried = goesEarlier ? earlier : later;
        if (does && carried != NOT) {
            shelves.pushAway(row, catalogue, s, r, goesEarlier ? EARLIER : LATER);
        }
        return carried;
    }

    public int guide(int s, int i) {
        if (!isShelf(s)) {
            return UNKNOWN;
        }
        int b = row.onShelf(s, 0);
        int length = b == NONE ? 0 : guideLength(b, s);
        if (i == NONE) {
            return length;
        }
        return i >= 0 && i < length ? catalogue.of(b).signs.get(i) : NONE;
    }

    // ---- stock, search

    public int list(int set) {
        if (!isSetOfBooks(set)) {
            return OUTSIDE;
        }
        int was = theList;
        theList = set;
        return was;
    }

    public int stock(int what) {
        switch (what) {
            case 0:
                return theList & ~row.standing();
            case 1:
                return row.standing() & ~theList;
            default:
                return OUTSIDE;
        }
    }

    public int habit(int reading, int v) {
        if (!isReading(reading)) {
            return UNKNOWN;
        }
        if (v < 0 || v > WEIGHT_LIMIT) {
            return OUTSIDE;
        }
        int was = habits.weight(reading);
        habits.weigh(reading, v);
        return was;
    }

    public int likely(int b, int s) {
        if (!catalogue.has(b) || !isShelf(s)) {
            return UNKNOWN;
        }
        return row.stands(b) ? NOT : habits.chance(row, catalogue, b, s);
    }

    public int search(int b, int i) {
        if (!catalogue.has(b)) {
            return UNKNOWN;
        }
        if (row.stands(b)) {
            return NOT;
        }
        searching.begin(row, catalogue, habits, b);
        searching.find(row);
        return i == NONE ? searching.leastCost() : searching.shelfAt(i);
    }

    // ---- draws, images

    public int seed(int v) {
        if (v < 0) {
            return OUTSIDE;
        }
        int was = theSeed;
        theSeed = v;
        return was;
    }

    public int shelve(int set) {
        if (!isSetOfBooks(set)) {
            return OUTSIDE;
        }
        if (habits.total() == 0) {
            return NOT;
        }
        int done = 0;
        for (int b = 0; b < BOOKS; b++) {
            if (isIn(set, b) && !row.stands(b) && putIfItGoes(b, habits.readingOf(draw(habits.total())))) {
                done++;
            }
        }
        return done;
    }

    public int keep(int i) {
        if (!isImage(i)) {
            return UNKNOWN;
        }
        imageOf(i).store(row, theList, theSeed);
        return 1;
    }

    public int goBack(int i) {
        if (!isImage(i)) {
            return UNKNOWN;
        }
        Image image = imageOf(i);
        if (!image.kept || !shelves.hold(image.row, catalogue)) {
            return NOT;
        }
        row.copyFrom(image.row);
        theList = image.list;
        theSeed = image.seed;
        return 1;
    }

    // ---- what several calls use

    private boolean putIfItGoes(int b, int reading) {
        trial.copyFrom(row);
        if (!shelves.putBy(trial, catalogue, b, reading)) {
            return false;
        }
        row.copyFrom(trial);
        return true;
    }

    /** How many BOOKS must be CARRIED that way; NOT, if it does not go. */
    private int tryRoom(int s, int r, int step) {
        trial.copyFrom(row);
        return shelves.pushAway(trial, catalogue, s, r, step) ? row.carriedTo(trial) : NOT;
    }

    private int guideLength(int b, int s) {
        Bytes signs = catalogue.of(b).signs;
        int earlier = row.start(s);
        for (int n = 1; n < signs.size(); n++) {
            if (!someBegins(signs, n, earlier)) {
                return n;
            }
        }
        return signs.size();
    }

    /** Whether one of the first BOOKS of THE ROW has a MARK that begins with the first n of these signs. */
    private boolean someBegins(Bytes signs, int n, int first) {
        for (int i = 0; i < first; i++) {
            if (catalogue.of(row.bookAt(i)).signs.beginsWith(signs, n)) {
                return true;
            }
        }
        return false;
    }

    private boolean isSetOfBooks(int set) {
        return set >= 0 && set < (1 << catalogue.size());
    }

    /** A DRAW of n. */
    private int draw(int n) {
        theSeed = (int) ((theSeed * DRAW_FACTOR + DRAW_ADDEND) & DRAW_MASK);
        return n > 0 ? theSeed / DRAW_CUT % n : 0;
    }

    private Image imageOf(int i) {
        return i == 0 ? image0 : image1;
    }

    private static boolean isReading(int reading) {
        return reading >= 0 && reading < READINGS;
    }

    private static boolean isShelf(int s) {
        return s >= 0 && s < SHELVES;
    }

    private static boolean isImage(int i) {
        return i >= 0 && i < IMAGES;
    }

    private static boolean isIn(int set, int b) {
        return b >= 0 && b < BOOKS && (set & (1 << b)) != 0;
    }

    /** An element of an array; NONE outside it. */
    private static int entry(int[] array, int i) {
        return i >= 0 && i < array.length ? array[i] : NONE;
    }

    /** Writes an element of an array; outside it nothing. */
    private static void write(int[] array, int i, int v) {
        if (i >= 0 && i < array.length) {
            array[i] = v;
        }
    }

    /** Some bytes behind one another: a text, a MARK. */
    private static final class Bytes {
        private final int[] bytes;
        private int length;

        Bytes(int limit) {
            bytes = new int[Math.max(0, limit)];
            length = 0;
        }

        int size() {
            return length;
        }

        int get(int i) {
            return i >= 0 && i < length && i < bytes.length ? bytes[i] : NONE;
        }

        void append(int value) {
            if (length >= 0 && length < bytes.length) {
                bytes[length] = value;
                length++;
            }
        }

        void clear() {
            length = 0;
        }

        boolean beginsWith(Bytes other, int n) {
            if (length < n) {
                return false;
            }
            for (int i = 0; i < n; i++) {
                if (get(i) != other.get(i)) {
                    return false;
                }
            }
            return true;
        }
    }

    /** A BOOK: the parts of its MARK, the MARK's bytes, its width. */
    private static final class Book {
        private static final int PARTS = 5;
        /** Above all that a cutter's figures come to, by whatever READING. */
        private static final int CUTTER_STEP = 65536;
        private static final int CLASS_STEP = 32;

        private final Bytes signs = new Bytes(MARK_LIMIT);
        /** Letters are 1 to 26 here; 0 is none, which is so ahead of all. */
        private int firstLetter;
        private int secondLetter;
        private int number;
        private int numberByFigures;
        private int decimals;
        private int decimalsByFigures;
        private int cutterLetter;
        private int cutter;
        private int cutterByFigures;
        private int year;
        private int thickness;

        void clear() {
            signs.clear();
            firstLetter = 0;
            secondLetter = 0;
            number = 0;
            numberByFigures = 0;
            decimals = 0;
            decimalsByFigures = 0;
            cutterLetter = 0;
            cutter = 0;
            cutterByFigures = 0;
            year = NONE;
            thickness = UNTOLD_WIDTH;
        }

        /** Below 0: this one's MARK comes first by the READING; 0: none of its parts is other by it. */
        int compareBy(Book other, int reading) {
            for (int part = 0; part < PARTS; part++) {
                int own = key(part, reading);
                int others = other.key(part, reading);
                if (own != others) {
                    return own < others ? -1 : 1;
                }
            }
            return 0;
        }

        private int key(int part, int reading) {
            switch (part) {
                case 0:
                    return firstLetter * CLASS_STEP + (reading == ONE_LETTER ? 0 : secondLetter);
                case 1:
                    return reading == NUMBERS_BY_FIGURES ? numberByFigures : number;
                case 2:
                    return reading == DECIMALS_WHOLE ? decimals : decimalsByFigures;
                case 3:
                    return cutterLetter * CUTTER_STEP + (reading == CUTTERS_WHOLE ? cutter : cutterByFigures);
                default:
                    return year;
            }
        }
    }

    /** All BOOKS, and behind them those of a text that is being read. */
    private static final class Catalogue {
        private final Book[] books = new Book[BOOKS];
        private final Book nobody = new Book();
        private int known;
        private int drafted;

        Catalogue() {
            for (int b = 0; b < books.length; b++) {
                books[b] = new Book();
            }
            known = 0;
            drafted = 0;
        }

        int size() {
            return known;
        }

        boolean has(int b) {
            return b >= 0 && b < known;
        }

        /** The BOOK of a number; outside them one that is nobody's. */
        Book of(int b) {
            if (b < 0 || b >= books.length) {
                return nobody;
            }
            Book found = books[b];
            return found == null ? nobody : found;
        }

        boolean hasSpace() {
            return drafted < BOOKS;
        }

        /** The BOOK that the text is telling. */
        Book draft() {
            return of(drafted);
        }

        boolean hasMarkOfDraft() {
            for (int b = 0; b < drafted; b++) {
                if (of(b).compareBy(draft(), RIGHT) == 0) {
                    return true;
                }
            }
            return false;
        }

        void endDraft() {
            drafted++;
        }

        void acceptDrafts() {
            known = drafted;
        }

        void dropDrafts() {
            drafted = known;
        }

        boolean isAhead(int a, int b, int reading) {
            int way = of(a).compareBy(of(b), reading);
            return way != 0 ? way < 0 : a < b;
        }
    }

    /** Reads a text from left to right into drafts; each part answers whether it had no FAULT. */
    private static final class Parser {
        private static final int BLANK = ' ';

        private final Bytes text;
        private final Catalogue books;
        private Book told;
        private int at;
        private int kind;
        private int place;
        private int value;
        private int byFigures;

        Parser(Bytes text, Catalogue books) {
            this.text = text;
            this.books = books;
            told = books.draft();
            at = 0;
            kind = 0;
            place = NONE;
            value = 0;
            byFigures = 0;
        }

        /** The number of the first FAULT; 0, if there is none. */
        int parse() {
            skipBlanks();
            for (int n = 0; n < TEXT_LIMIT && at < text.size(); n++) {
                if (!readClause()) {
                    return kind;
                }
                skipBlanks();
            }
            return 0;
        }

        int faultAt() {
            return place;
        }

        private boolean readClause() {
            return readClass() && readNumber() && readDecimals() && readCutter()
                    && readBehindBlanks() && readEnd();
        }

        private boolean readClass() {
            if (!isLetter(next())) {
                return fail(CANNOT_STAND, at);
            }
            if (!books.hasSpace()) {
                return fail(TOO_MANY_BOOKS, at);
            }
            told = books.draft();
            told.clear();
            told.firstLetter = takeLetter();
            if (!isLetter(next())) {
                return true;
            }
            told.secondLetter = takeLetter();
            return !isLetter(next()) || fail(TOO_MANY_SIGNS, at);
        }

        private boolean readNumber() {
            if (next() == '0') {
                return fail(CANNOT_STAND, at);
            }
            if (!readFigures()) {
                return false;
            }
            told.number = value;
            told.numberByFigures = byFigures;
            return true;
        }

        private boolean readDecimals() {
            if (next() != '.' || !isFigure(text.get(at + 1))) {
                return true;
            }
            takeSign();
            if (!readFigures()) {
                return false;
            }
            told.decimals = value;
            told.decimalsByFigures = byFigures;
            return true;
        }

        private boolean readCutter() {
            if (next() != '.') {
                return true;
            }
            takeSign();
            if (!isLetter(next())) {
                return fail(CANNOT_STAND, at);
            }
            told.cutterLetter = takeLetter();
            if (!readFigures()) {
                return false;
            }
            told.cutter = value;
            told.cutterByFigures = byFigures;
            return true;
        }

        /** Year and width, which stand only behind a blank, and the blanks ahead of ';'. */
        private boolean readBehindBlanks() {
            boolean parted = skipBlanks();
            if (parted && next() == 'y') {
                if (!readYear()) {
                    return false;
                }
                parted = skipBlanks();
            }
            if (parted && next() == 'w') {
                if (!readThickness()) {
                    return false;
                }
                skipBlanks();
            }
            return true;
        }

        private boolean readYear() {
            told.signs.append(BLANK);
            takeSign();
            int start = at;
            value = 0;
            for (int k = 0; k < FIGURES; k++) {
                if (!isFigure(next())) {
                    return fail(CANNOT_STAND, at);
                }
                value = value * 10 + takeSign() - '0';
            }
            if (value < FIRST_YEAR || value > LAST_YEAR) {
                return fail(YEAR_OUTSIDE, start);
            }
            told.year = value;
            return true;
        }

        private boolean readThickness() {
            at++;
            if (!isFigure(next()) || next() == '0') {
                return fail(CANNOT_STAND, at);
            }
            told.thickness = next() - '0';
            at++;
            return true;
        }

        private boolean readEnd() {
            if (next() != ';') {
                return fail(CANNOT_STAND, at);
            }
            if (books.hasMarkOfDraft()) {
                return fail(MARK_THERE, at);
            }
            books.endDraft();
            at++;
            return true;
        }

        /** One to four figures, into value and byFigures. */
        private boolean readFigures() {
            if (!isFigure(next())) {
                return fail(CANNOT_STAND, at);
            }
            value = 0;
            int figures = 0;
            while (figures < FIGURES && isFigure(next())) {
                value = value * 10 + takeSign() - '0';
                figures++;
            }
            byFigures = filled(value, figures);
            return !isFigure(next()) || fail(TOO_MANY_SIGNS, at);
        }

        /** Grows as figures do that are looked at one by one, the shorter ahead if it begins the other. */
        private static int filled(int value, int figures) {
            int all = value;
            for (int k = figures; k < FIGURES; k++) {
                all = all * 10;
            }
            return all * (FIGURES + 1) + figures;
        }

        /** Whether there was a blank. */
        private boolean skipBlanks() {
            int start = at;
            for (int n = 0; n < TEXT_LIMIT && next() == BLANK; n++) {
                at++;
            }
            return at > start;
        }

        private int takeLetter() {
            return takeSign() - 'a' + 1;
        }

        /** The next byte, which belongs to the MARK. */
        private int takeSign() {
            int sign = text.get(at);
            told.signs.append(sign);
            at++;
            return sign;
        }

        /** The next byte; NONE at the end. */
        private int next() {
            return text.get(at);
        }

        private boolean fail(int which, int where) {
            kind = which;
            place = where;
            return false;
        }

        private static boolean isLetter(int sign) {
            return sign >= 'a' && sign <= 'z';
        }

        private static boolean isFigure(int sign) {
            return sign >= '0' && sign <= '9';
        }
    }

    /** THE ROW: BOOKS from left to right; as it goes SHELF by SHELF, each BOOK's SHELF tells the rest. */
    private static final class Row {
        private final int[] line = new int[BOOKS];
        private final int[] shelfOfBook = new int[BOOKS];
        private int length;

        Row() {
            clear();
        }

        void clear() {
            length = 0;
            for (int b = 0; b < BOOKS; b++) {
                write(shelfOfBook, b, NONE);
            }
        }

        void copyFrom(Row other) {
            length = other.length;
            for (int i = 0; i < BOOKS; i++) {
                write(line, i, entry(other.line, i));
                write(shelfOfBook, i, entry(other.shelfOfBook, i));
            }
        }

        int size() {
            return length;
        }

        int bookAt(int i) {
            return i >= 0 && i < length && i < line.length ? line[i] : NONE;
        }

        int shelfOf(int b) {
            return b >= 0 && b < shelfOfBook.length ? shelfOfBook[b] : NONE;
        }

        boolean stands(int b) {
            return shelfOf(b) != NONE;
        }

        int indexOf(int b) {
            for (int i = 0; i < length; i++) {
                if (bookAt(i) == b) {
                    return i;
                }
            }
            return NONE;
        }

        int standing() {
            int set = 0;
            for (int b = 0; b < BOOKS; b++) {
                if (stands(b)) {
                    set = set | (1 << b);
                }
            }
            return set;
        }

        /** Where a SHELF begins: how many BOOKS stand on earlier ones. */
        int start(int s) {
            int earlier = 0;
            for (int its : shelfOfBook) {
                if (its != NONE && its < s) {
                    earlier++;
                }
            }
            return earlier;
        }

        int amount(int s) {
            int there = 0;
            for (int its : shelfOfBook) {
                if (its == s) {
                    there++;
                }
            }
            return there;
        }

        int onShelf(int s, int i) {
            return i >= 0 && i < amount(s) ? bookAt(start(s) + i) : NONE;
        }

        void insert(int i, int b, int s) {
            if (length >= BOOKS || i < 0 || i > length) {
                return;
            }
            for (int k = length; k > i; k--) {
                write(line, k, entry(line, k - 1));
            }
            write(line, i, b);
            write(shelfOfBook, b, s);
            length++;
        }

        void remove(int b) {
            int from = indexOf(b);
            if (from == NONE) {
                return;
            }
            length--;
            for (int k = from; k < length; k++) {
                write(line, k, entry(line, k + 1));
            }
            write(shelfOfBook, b, NONE);
        }

        /** The BOOK of a SHELF that is pushed first: its last one to later SHELVES, its first one to earlier. */
        int edge(int s, int step) {
            return step == LATER ? bookAt(start(s + 1) - 1) : bookAt(start(s));
        }

        void pass(int b, int s) {
            write(shelfOfBook, b, s);
        }

        /** Where in THE ROW a BOOK is PUT by a READING. */
        int spotFor(Catalogue books, int b, int reading) {
            for (int i = 0; i < length; i++) {
                if (!books.isAhead(bookAt(i), b, reading)) {
                    return i;
                }
            }
            return length;
        }

        /** The SHELF of such a spot, before anything is pushed. */
        int shelfAtSpot(int spot) {
            if (length == 0) {
                return 0;
            }
            return shelfOf(bookAt(Math.min(spot, length - 1)));
        }

        int carriedTo(Row other) {
            int carried = 0;
            for (int b = 0; b < BOOKS; b++) {
                if (shelfOf(b) != other.shelfOf(b)) {
                    carried++;
                }
            }
            return carried;
        }
    }

    /** WIDTHS, and what is done to a row so that it keeps to them. */
    private static final class Shelves {
        private final int[] widths = new int[SHELVES];

        Shelves() {
            for (int s = 0; s < SHELVES; s++) {
                write(widths, s, FIRST_WIDTH);
            }
        }

        int widthOf(int s) {
            return entry(widths, s);
        }

        void widen(int s, int v) {
            write(widths, s, v);
        }

        int left(Row row, Catalogue books, int s) {
            int rest = entry(widths, s);
            for (int b = 0; b < books.size(); b++) {
                if (row.shelfOf(b) == s) {
                    rest -= books.of(b).thickness;
                }
            }
            return rest;
        }

        boolean hold(Row row, Catalogue books) {
            for (int s = 0; s < SHELVES; s++) {
                if (left(row, books, s) < 0) {
                    return false;
                }
            }
            return true;
        }

        /** PUT; if it cannot be, the row is spoilt. */
        boolean putBy(Row row, Catalogue books, int b, int reading) {
            int spot = row.spotFor(books, b, reading);
            int s = row.shelfAtSpot(spot);
            row.insert(spot, b, s);
            return pushAway(row, books, s, 0, LATER);
        }

        /** BOOKS are pushed till r is left on SHELF s and all others hold theirs; if it cannot be, the row is spoilt. */
        boolean pushAway(Row row, Catalogue books, int s, int r, int step) {
            int due = r;
            for (int n = 0; n < SHELVES; n++) {
                int on = s + n * step;
                if (!isShelf(on)) {
                    return true;
                }
                if (!relieve(row, books, on, due, step)) {
                    return false;
                }
                due = 0;
            }
            return true;
        }

        private boolean relieve(Row row, Catalogue books, int s, int due, int step) {
            for (int n = row.amount(s); n > 0 && left(row, books, s) < due; n--) {
                if (!isShelf(s + step)) {
                    return false;
                }
                row.pass(row.edge(s, step), s + step);
            }
            return left(row, books, s) >= due;
        }

        /** The row becomes what stands in another one, LAID ANEW. */
        boolean layAnew(Row row, Row from, Catalogue books, int least) {
            row.clear();
            for (int b = 0; b < books.size(); b++) {
                if (from.stands(b)) {
                    // beyond the last SHELF, so that none counts before it is laid
                    row.insert(row.spotFor(books, b, RIGHT), b, SHELVES);
                }
            }
            int on = 0;
            for (int i = 0; i < row.size(); i++) {
                int b = row.bookAt(i);
                on = firstThatTakes(row, books, b, on, least);
                if (!isShelf(on)) {
                    return false;
                }
                row.pass(b, on);
            }
            return true;
        }

        private int firstThatTakes(Row row, Catalogue books, int b, int from, int least) {
            for (int s = from; s < SHELVES; s++) {
                int rest = left(row, books, s) - books.of(b).thickness;
                if (rest >= (row.amount(s) == 0 ? 0 : least)) {
                    return s;
                }
            }
            return SHELVES;
        }
    }

    /** What is out of order in THE ROW. */
    private static final class Tidying {
        /** For each place the most BOOKS in order that begin with it. */
        private final int[] chains = new int[BOOKS];

        /** OUT OF PLACE. */
        int outOfPlace(Row row, Catalogue books) {
            int due = measureChains(row, books);
            int last = NONE;
            int set = 0;
            for (int i = 0; i < row.size(); i++) {
                int b = row.bookAt(i);
                // the first that a longest chain can go on with stands: so the first row stands
                if (entry(chains, i) == due && (last == NONE || books.isAhead(last, b, RIGHT))) {
                    last = b;
                    due--;
                } else {
                    set = set | (1 << b);
                }
            }
            return set;
        }

        /** The length of the longest chain. */
        private int measureChains(Row row, Catalogue books) {
            int longest = 0;
            for (int i = row.size() - 1; i >= 0; i--) {
                int behind = 0;
                for (int k = i + 1; k < row.size(); k++) {
                    if (books.isAhead(row.bookAt(i), row.bookAt(k), RIGHT)) {
                        behind = Math.max(behind, entry(chains, k));
                    }
                }
                write(chains, i, behind + 1);
                longest = Math.max(longest, behind + 1);
            }
            return longest;
        }

        int pairs(Row row, Catalogue books) {
            int wrong = 0;
            for (int i = 0; i < row.size(); i++) {
                for (int k = i + 1; k < row.size(); k++) {
                    if (!books.isAhead(row.bookAt(i), row.bookAt(k), RIGHT)) {
                        wrong++;
                    }
                }
            }
            return wrong;
        }

        int firstWrong(Row row, Catalogue books) {
            for (int i = 0; i + 1 < row.size(); i++) {
                if (!books.isAhead(row.bookAt(i), row.bookAt(i + 1), RIGHT)) {
                    return row.bookAt(i);
                }
            }
            return NONE;
        }

        /** GUESS. */
        int readingOf(Row row, Catalogue books, int b) {
            int set = outOfPlace(row, books);
            for (int reading = 0; reading < READINGS; reading++) {
                if (standsRight(row, books, b, reading, set)) {
                    return reading;
                }
            }
            return NONE;
        }

        /** Whether b stands right by a READING among all but those of a SET. */
        private boolean standsRight(Row row, Catalogue books, int b, int reading, int without) {
            int own = row.indexOf(b);
            for (int i = 0; i < row.size(); i++) {
                int other = row.bookAt(i);
                if (i != own && !isIn(without, other)
                        && books.isAhead(other, b, reading) != (i < own)) {
                    return false;
                }
            }
            return true;
        }
    }

    /** The weights of READINGS, and where they lead. */
    private static final class Habits {
        private final int[] weights = new int[READINGS];

        Habits() {
            for (int reading = 0; reading < READINGS; reading++) {
                write(weights, reading, reading == RIGHT ? FIRST_RIGHT_WEIGHT : FIRST_WEIGHT);
            }
        }

        int weight(int reading) {
            return entry(weights, reading);
        }

        void weigh(int reading, int v) {
            write(weights, reading, v);
        }

        int total() {
            int sum = 0;
            for (int reading = 0; reading < READINGS; reading++) {
                sum += weight(reading);
            }
            return sum;
        }

        /** The first READING with which weights so far are above what was drawn. */
        int readingOf(int drawn) {
            int sum = 0;
            for (int reading = 0; reading < READINGS; reading++) {
                sum += weight(reading);
                if (sum > drawn) {
                    return reading;
                }
            }
            return RIGHT;
        }

        /** LIKELY. */
        int chance(Row row, Catalogue books, int b, int s) {
            int all = total();
            if (all <= 0) {
                return 0;
            }
            int led = 0;
            for (int reading = 0; reading < READINGS; reading++) {
                if (row.shelfAtSpot(row.spotFor(books, b, reading)) == s) {
                    led += weight(reading);
                }
            }
            return led * MILLION / all;
        }
    }

    /** THE SEARCH: all orders are tried, from the first on, so that of like ones the first is found. */
    private static final class Search {
        private final int[] chances = new int[SHELVES];
        private final int[] tour = new int[SHELVES];
        private final int[] best = new int[SHELVES];
        private int length;
        private int cost;

        /** The SHELVES to go to, in their first order. */
        void begin(Row row, Catalogue books, Habits habits, int b) {
            length = 0;
            for (int s = 0; s < SHELVES; s++) {
                int chance = habits.chance(row, books, b, s);
                write(chances, s, chance);
                if (chance > 0) {
                    write(tour, length, s);
                    length++;
                }
            }
        }

        void find(Row row) {
            keepBest(costOfTour(row));
            for (int n = 1; n < TOURS && nextTour(); n++) {
                int now = costOfTour(row);
                if (now < cost) {
                    keepBest(now);
                }
            }
        }

        int leastCost() {
            return cost;
        }

        int shelfAt(int i) {
            return i < length ? entry(best, i) : NONE;
        }

        private int costOfTour(Row row) {
            int on = 0;
            int steps = 0;
            int sum = 0;
            for (int i = 0; i < length; i++) {
                int s = entry(tour, i);
                steps += Math.abs(s - on) + Math.max(1, row.amount(s));
                sum += entry(chances, s) * steps;
                on = s;
            }
            return sum / COST_UNIT;
        }

        private void keepBest(int now) {
            cost = now;
            for (int i = 0; i < length; i++) {
                write(best, i, entry(tour, i));
            }
        }

        /** The tour becomes the one that comes next, SHELF by SHELF; false, if it was the last. */
        private boolean nextTour() {
            int turn = length - 2;
            while (turn >= 0 && entry(tour, turn) > entry(tour, turn + 1)) {
                turn--;
            }
            if (turn < 0) {
                return false;
            }
            int other = length - 1;
            while (other > turn && entry(tour, other) < entry(tour, turn)) {
                other--;
            }
            swap(turn, other);
            for (int i = turn + 1, k = length - 1; i < k; i++, k--) {
                swap(i, k);
            }
            return true;
        }

        private void swap(int i, int k) {
            int held = entry(tour, i);
            write(tour, i, entry(tour, k));
            write(tour, k, held);
        }
    }

    /** What an IMAGE keeps. */
    private static final class Image {
        private final Row row = new Row();
        private int list;
        private int seed;
        private boolean kept;

        void store(Row now, int listNow, int seedNow) {
            row.copyFrom(now);
            list = listNow;
            seed = seedNow;
            kept = true;
        }
    }
}
