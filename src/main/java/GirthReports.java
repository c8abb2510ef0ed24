import java.util.Arrays;

/**
 * The girth of a ball, by what walkers report of its roads and by the shadows of its towns.
 *
 * Every row is made in a constructor and used again, so that a call makes no object. Rows are read
 * and written through {@link #at} and {@link #put} alone, which test the index; a divisor that is
 * no constant is tested where it divides.
 */
public final class GirthReports {
    public static final int BAD = -1, NO = -2, FULL = -3, NONE = -4;

    private static final int LETTERS_MOST = 200;
    private static final int TOWNS_MOST = 6;
    private static final int WALKERS_MOST = 4;
    private static final int REPORTS_MOST = 9;
    private static final int UNDO_MOST = 8;
    private static final int SEEN_MOST = 6;
    private static final int KEPT_MOST = 2;
    private static final int SET_MOST = 4;
    private static final int UNITS_MOST = 9;

    private static final int EXACT = 0;
    private static final int ROUNDING = 1;
    private static final int SHORT = 2;
    private static final int COPIER = 3;
    private static final int KINDS = 4;

    private static final int WITHOUT_ROAD = 1;
    private static final int WITHOUT_WELLS = 2;
    private static final int WITHOUT_WALKER = 4;
    private static final int SETS_OF_ERRORS = 8;

    private static final int EVERY_REPORT = (1 << REPORTS_MOST) - 1;

    private static final String FIRST_TEXT =
        "g36;t24,4;t31,5;t38,4;t60,2;r0,1,6;r1,2,15;r0,2,10;r2,3,30;w0,20,9;w1,25,8;w2,15,9;w3,30,5;";

    private final Paper paper = new Paper();
    private final Reader reader = new Reader();
    private final Book book = new Book();
    private final Book yearBook = new Book();
    private final Book keptFirst = new Book();
    private final Book keptSecond = new Book();
    private final Trail trail = new Trail();
    private final Sightings seen = new Sightings();
    private final Girths girths = new Girths();
    private Ball ball = new Ball();
    private Ball spare = new Ball();
    private int kept = 0;

    public GirthReports() {
        for (int i = 0; i < FIRST_TEXT.length(); i++) {
            paper.append(FIRST_TEXT.charAt(i));
        }
        reader.firstFault(paper, ball);
        paper.clear();
    }

    // ---- balls

    public int write(int letter) {
        if (!within(letter, 32, 126)) {
            return BAD;
        }
        if (paper.length >= LETTERS_MOST) {
            return FULL;
        }
        paper.append(letter);
        return paper.length;
    }

    public int wipe() {
        int was = paper.length;
        paper.clear();
        return was;
    }

    public int fault() {
        return reader.firstFault(paper, spare);
    }

    public int lay() {
        if (reader.firstFault(paper, spare) != NONE) {
            return NO;
        }
        if (spare.townCount < 2 || spare.walkerCount < 1) {
            return NO;
        }
        Ball laid = spare;
        spare = ball;
        ball = laid;
        book.clear();
        trail.clear();
        seen.clear();
        kept = 0;
        return ball.townCount;
    }

    public int town(int t, int what) {
        if (!ball.isTown(t)) {
            return BAD;
        }
        switch (what) {
            case 0: return at(ball.lies, t);
            case 1: return ball.shadow(t);
            default: return BAD;
        }
    }

    public int between(int a, int b, int what) {
        if (!ball.areTwoTowns(a, b)) {
            return BAD;
        }
        switch (what) {
            case 0: return ball.straight(a, b);
            case 1: return ball.byRoad(a, b);
            case 2: return ball.shadowsApart(a, b);
            default: return BAD;
        }
    }

    public int walker(int w, int what) {
        if (!ball.isWalker(w)) {
            return BAD;
        }
        switch (what) {
            case 0: return at(ball.kinds, w);
            case 1: return at(ball.paces, w);
            case 2: return at(ball.units, w);
            default: return BAD;
        }
    }

    public int report(int r, int what) {
        if (!book.has(r)) {
            return BAD;
        }
        switch (what) {
            case 0: return at(book.who, r);
            case 1: return at(book.from, r);
            case 2: return at(book.to, r);
            case 3: return at(book.stadia, r);
            case 4: return girthBy(r);
            case 5: return leastBy(r);
            case 6: return mostBy(r);
            default: return BAD;
        }
    }

    // ---- walks

    public int walk(int w, int a, int b) {
        if (!ball.isWalker(w) || !ball.areTwoTowns(a, b)) {
            return BAD;
        }
        if (book.size >= REPORTS_MOST) {
            return FULL;
        }
        goWalking(book, w, a, b);
        trail.rememberWalk(ball.daysOf(w, a, b));
        return at(book.stadia, book.size - 1);
    }

    public int strike(int r) {
        if (!book.has(r)) {
            return BAD;
        }
        trail.rememberStriking(book, r);
        book.removeAt(r);
        return book.size;
    }

    public int undo() {
        if (trail.size == 0) {
            return NO;
        }
        trail.takeBack(book);
        return trail.size;
    }

    // ---- the girth

    public int mean() {
        return meanBy(book);
    }

    public int all(int what) {
        if (!within(what, 0, 2)) {
            return BAD;
        }
        int least = NONE;
        int most = NONE;
        for (int r = 0; r < book.size; r++) {
            int high = mostBy(r);
            if (high != NONE) {
                least = Math.max(least, leastBy(r));
                most = most == NONE ? high : Math.min(most, high);
            }
        }
        if (most == NONE) {
            return NONE;
        }
        if (what == 2) {
            return least > most ? 1 : 0;
        }
        return what == 0 ? least : most;
    }

    public int next(int w, int what) {
        if (!ball.isWalker(w) || !within(what, 0, 1)) {
            return BAD;
        }
        int which = NONE;
        int narrowest = NONE;
        for (int low = 0; low < ball.townCount; low++) {
            for (int high = low + 1; high < ball.townCount; high++) {
                int width = widthOfNext(w, low, high);
                if (width != NONE && (which == NONE || width < narrowest)) {
                    which = 10 * low + high;
                    narrowest = width;
                }
            }
        }
        return what == 0 ? which : narrowest;
    }

    public int fewest(int e, int what) {
        if (!within(e, 0, 99) || !within(what, 0, 1)) {
            return BAD;
        }
        girths.reckon(ball, book);
        for (int many = 1; many <= SET_MOST; many++) {
            for (int set = 1; set < 1 << book.size; set++) {
                if (Integer.bitCount(set) == many && ball.isNear(girths.meanOf(set, 0), e)) {
                    return what == 0 ? many : set;
                }
            }
        }
        return NONE;
    }

    public int cancel(int r, int what) {
        if (!book.has(r) || !within(what, 0, 1)) {
            return BAD;
        }
        int asItIs = girthBy(r);
        if (asItIs == NONE) {
            return NONE;
        }
        int off = ball.offGirth(asItIs);
        int nearest = off;
        int sets = 0;
        for (int errors = 1; errors < SETS_OF_ERRORS; errors++) {
            int girth = girthWithout(r, errors);
            if (girth != NONE && ball.offGirth(girth) < off) {
                sets |= 1 << errors;
                nearest = Math.min(nearest, ball.offGirth(girth));
            }
        }
        return what == 0 ? sets : nearest;
    }

    public int sail(int l, int d) {
        if (!within(l, 1, 360) || !within(d, 1, 99)) {
            return BAD;
        }
        int believed = meanBy(book);
        if (believed == NONE) {
            return NONE;
        }
        int reach = 100 * d;
        if (cut((long) believed * l, 360) > reach) {
            return 0;
        }
        return cut((long) ball.girth * l, 360) > reach ? 1 : 2;
    }

    // ---- what was seen

    public int see(int w, int a, int b, int n) {
        if (!ball.isWalker(w) || !ball.areTwoTowns(a, b) || !within(n, 0, 9999)) {
            return BAD;
        }
        if (seen.size >= SEEN_MOST) {
            return FULL;
        }
        seen.add(w, a, b, n);
        return seen.size;
    }

    public int forget() {
        int were = seen.size;
        seen.clear();
        return were;
    }

    public int fits(int w, int what) {
        if (!ball.isWalker(w) || !within(what, 0, 1)) {
            return BAD;
        }
        return what == 0 ? fittingUnits(w) : fittingKinds(w);
    }

    public int towns(int s) {
        if (!within(s, 0, 90)) {
            return BAD;
        }
        int bits = 0;
        for (int t = 0; t < ball.townCount; t++) {
            if (Math.abs(ball.shadow(t) - s) <= 1) {
                bits |= 1 << t;
            }
        }
        return bits;
    }

    // ---- miscounts, years

    public int miscount(int e, int x, int part) {
        if (!within(e, 0, 99) || !within(x, 0, 10) || !within(part, 0, 1)) {
            return BAD;
        }
        int below = power(10, book.size);
        int above = waysNear(e, x);
        int shared = commonDivisor(above, below);
        return cut(part == 0 ? above : below, shared);
    }

    public int year(int z, int n, int what) {
        if (!within(z, 0, 9999) || !within(n, 1, 40) || !within(what, 0, 1)) {
            return BAD;
        }
        yearBook.copyFrom(book);
        for (int k = 0; k < n; k++) {
            walkByDraw(yearBook, drawOf(z, k));
        }
        return what == 0 ? meanBy(yearBook) : yearBook.days - book.days;
    }

    public int keep() {
        if (kept >= KEPT_MOST) {
            return FULL;
        }
        keptAt(kept).copyFrom(book);
        kept++;
        return kept;
    }

    public int back() {
        if (kept == 0) {
            return NO;
        }
        kept--;
        book.copyFrom(keptAt(kept));
        trail.clear();
        return kept;
    }

    public int count(int what) {
        switch (what) {
            case 0: return ball.townCount;
            case 1: return ball.walkerCount;
            case 2: return ball.girth;
            case 3: return book.size;
            case 4: return book.days;
            case 5: return seen.size;
            case 6: return trail.size;
            case 7: return kept;
            case 8: return paper.length;
            default: return BAD;
        }
    }

    // ---- what a report says

    private int girthBy(int r) {
        return ball.girthOf(at(book.who, r), at(book.stadia, r), shadowsApartBy(r));
    }

    private int leastBy(int r) {
        return ball.girthOf(at(book.who, r), at(book.stadia, r), shadowsApartBy(r) + 2);
    }

    private int mostBy(int r) {
        return ball.girthOf(at(book.who, r), at(book.stadia, r), shadowsApartBy(r) - 2);
    }

    private int shadowsApartBy(int r) {
        return ball.shadowsApart(at(book.from, r), at(book.to, r));
    }

    private int meanBy(Book of) {
        girths.reckon(ball, of);
        return girths.meanOf(EVERY_REPORT, 0);
    }

    private int widthOfNext(int w, int a, int b) {
        int stadia = wouldTell(book, w, a, b, at(ball.kinds, w), at(ball.units, w));
        int apart = ball.shadowsApart(a, b);
        int most = ball.girthOf(w, stadia, apart - 2);
        return most == NONE ? NONE : most - ball.girthOf(w, stadia, apart + 2);
    }

    private int girthWithout(int r, int errors) {
        int w = at(book.who, r);
        int a = at(book.from, r);
        int b = at(book.to, r);
        boolean noWells = (errors & WITHOUT_WELLS) != 0;
        int apart = noWells ? ball.liesApart(a, b) : ball.shadowsApart(a, b);
        return ball.girthOf(w, stadiaWithout(r, errors), apart);
    }

    private int stadiaWithout(int r, int errors) {
        int w = at(book.who, r);
        int a = at(book.from, r);
        int b = at(book.to, r);
        boolean noWalker = (errors & WITHOUT_WALKER) != 0;
        int kind = noWalker ? EXACT : at(ball.kinds, w);
        // what a COPIER told never came of the road
        if (kind == COPIER) {
            return at(book.stadia, r);
        }
        boolean noRoad = (errors & WITHOUT_ROAD) != 0;
        int miles = noRoad ? ball.straight(a, b) : ball.byRoad(a, b);
        return toldOfMiles(kind, at(ball.units, w), miles);
    }

    // ---- what a walker would tell

    private int wouldTell(Book of, int w, int a, int b, int kind, int unit) {
        if (kind == COPIER) {
            int copied = of.latestOfAnother(w, a, b);
            if (copied != NONE) {
                return copied;
            }
        }
        return toldOfMiles(kind, unit, ball.byRoad(a, b));
    }

    private static int toldOfMiles(int kind, int unit, int miles) {
        int exact = cut(10L * miles, unit);
        switch (kind) {
            case ROUNDING: return cut(exact + 5, 10) * 10;
            case SHORT: return nineTenths(exact);
            default: return exact;
        }
    }

    private void goWalking(Book into, int w, int a, int b) {
        into.add(w, a, b, wouldTell(into, w, a, b, at(ball.kinds, w), at(ball.units, w)));
        into.days += ball.daysOf(w, a, b);
    }

    private int fittingUnits(int w) {
        int bits = 0;
        for (int unit = 1; unit <= UNITS_MOST; unit++) {
            if (allSeenFits(w, at(ball.kinds, w), unit)) {
                bits |= 1 << unit;
            }
        }
        return bits;
    }

    private int fittingKinds(int w) {
        int bits = 0;
        for (int kind = 0; kind < KINDS; kind++) {
            if (allSeenFits(w, kind, at(ball.units, w))) {
                bits |= 1 << kind;
            }
        }
        return bits;
    }

    private boolean allSeenFits(int w, int kind, int unit) {
        for (int i = 0; i < seen.size; i++) {
            if (at(seen.who, i) == w) {
                int told = wouldTell(book, w, at(seen.from, i), at(seen.to, i), kind, unit);
                if (told != at(seen.stadia, i)) {
                    return false;
                }
            }
        }
        return true;
    }

    // ---- chances and draws

    /** Of all 10 to the REPORTS ways to miscount, as many as leave MEAN near. */
    private int waysNear(int e, int x) {
        girths.reckon(ball, book);
        int ways = 0;
        for (int shorts = 0; shorts < 1 << book.size; shorts++) {
            if (ball.isNear(girths.meanOf(EVERY_REPORT, shorts), e)) {
                int many = Integer.bitCount(shorts);
                ways += power(x, many) * power(10 - x, book.size - many);
            }
        }
        return ways;
    }

    private void walkByDraw(Book into, int draw) {
        int w = rest(draw, ball.walkerCount);
        int a = rest(draw / 4, ball.townCount);
        int b = rest(draw / 32, ball.townCount);
        if (a == b) {
            return;
        }
        if (into.size >= REPORTS_MOST) {
            into.removeAt(0);
        }
        goWalking(into, w, a, b);
    }

    private static int drawOf(int z, int k) {
        long x = 7919L * z + 6151L * k + 1;
        return (int) ((x * x) % 65521);
    }

    private Book keptAt(int i) {
        return i == 0 ? keptFirst : keptSecond;
    }

    // ---- numbers and rows

    private static boolean within(int number, int low, int high) {
        return number >= low && number <= high;
    }

    private static int cut(long above, int below) {
        return below > 0 ? (int) (above / below) : 0;
    }

    private static int rest(int number, int many) {
        return many > 0 ? number % many : 0;
    }

    private static int nineTenths(int stadia) {
        return cut(9L * stadia, 10);
    }

    private static int power(int base, int times) {
        int product = 1;
        for (int i = 0; i < times; i++) {
            product *= base;
        }
        return product;
    }

    private static int commonDivisor(int a, int b) {
        int high = b;
        int low = a;
        // numbers of 31 bits need fewer than 64 steps
        for (int step = 0; step < 64 && low > 0; step++) {
            int left = high % low;
            high = low;
            low = left;
        }
        return high;
    }

    private static int at(int[] row, int i) {
        return i >= 0 && i < row.length ? row[i] : 0;
    }

    private static void put(int[] row, int i, int number) {
        if (i >= 0 && i < row.length) {
            row[i] = number;
        }
    }

    /** Moves the numbers from place i on, of the first 'size' ones, one lower. */
    private static void closeGap(int[] row, int i, int size) {
        for (int k = i; k < size - 1; k++) {
            put(row, k, at(row, k + 1));
        }
    }

    /** Moves the numbers from place i on, of the first 'size' ones, one higher. */
    private static void openGap(int[] row, int i, int size) {
        for (int k = size; k > i; k--) {
            put(row, k, at(row, k - 1));
        }
    }

    private static void copyRow(int[] from, int[] to) {
        for (int i = 0; i < from.length; i++) {
            put(to, i, at(from, i));
        }
    }

    /** THE TEXT. */
    private static final class Paper {
        private final int[] letters = new int[LETTERS_MOST];
        private int length = 0;

        void append(int letter) {
            if (length < LETTERS_MOST) {
                put(letters, length, letter);
                length++;
            }
        }

        void clear() {
            length = 0;
        }

        /** 0, which no letter is, behind the last one. */
        int letterAt(int place) {
            return place < length ? at(letters, place) : 0;
        }
    }

    /** Reads a TEXT, item by item, onto a ball. */
    private static final class Reader {
        private final int[] numbers = new int[3];
        private int place = 0;

        int firstFault(Paper paper, Ball onto) {
            onto.clear();
            place = 0;
            // each item takes a letter at least
            for (int items = 0; items < LETTERS_MOST && place < paper.length; items++) {
                int start = place;
                if (!takesItem(paper, onto)) {
                    return start;
                }
            }
            onto.measureRoads();
            return NONE;
        }

        private boolean takesItem(Paper paper, Ball onto) {
            int letter = paper.letterAt(place);
            int wanted = numbersBehind(letter);
            place++;
            for (int i = 0; i < wanted; i++) {
                int number = readNumber(paper);
                int sign = i < wanted - 1 ? ',' : ';';
                if (number == NONE || paper.letterAt(place) != sign) {
                    return false;
                }
                put(numbers, i, number);
                place++;
            }
            return onto.accepts(letter, at(numbers, 0), at(numbers, 1), at(numbers, 2));
        }

        private static int numbersBehind(int letter) {
            switch (letter) {
                case 'g': return 1;
                case 't': return 2;
                case 'r': return 3;
                case 'w': return 3;
                default: return 0;
            }
        }

        private int readNumber(Paper paper) {
            int number = NONE;
            for (int figures = 0; figures < 2; figures++) {
                int figure = paper.letterAt(place) - '0';
                if (!within(figure, 0, 9)) {
                    return number;
                }
                number = number == NONE ? figure : 10 * number + figure;
                place++;
            }
            return number;
        }
    }

    /** What is told of a ball, its TOWNS, ROADS and WALKERS, and what comes of these alone. */
    private static final class Ball {
        private final int[] lies = new int[TOWNS_MOST];
        private final int[] leans = new int[TOWNS_MOST];
        private final int[] bends = new int[TOWNS_MOST * TOWNS_MOST];
        private final int[] roads = new int[TOWNS_MOST * TOWNS_MOST];
        private final int[] kinds = new int[WALKERS_MOST];
        private final int[] paces = new int[WALKERS_MOST];
        private final int[] units = new int[WALKERS_MOST];
        private int girth = 0;
        private int townCount = 0;
        private int walkerCount = 0;

        void clear() {
            girth = 40 * 36;
            townCount = 0;
            walkerCount = 0;
            Arrays.fill(bends, 10);
        }

        boolean accepts(int letter, int first, int second, int third) {
            switch (letter) {
                case 'g': return acceptsGirth(first);
                case 't': return acceptsTown(first, second);
                case 'r': return acceptsRoad(first, second, third);
                case 'w': return acceptsWalker(first, second, third);
                default: return false;
            }
        }

        private boolean acceptsGirth(int forties) {
            if (!within(forties, 1, 99)) {
                return false;
            }
            girth = 40 * forties;
            return true;
        }

        private boolean acceptsTown(int lie, int lean) {
            if (townCount >= TOWNS_MOST || !within(lie, 0, 80) || !within(lean, 0, 8)) {
                return false;
            }
            put(lies, townCount, lie);
            put(leans, townCount, lean - 4);
            townCount++;
            return true;
        }

        private boolean acceptsRoad(int a, int b, int bend) {
            if (!areTwoTowns(a, b) || !within(bend, 0, 50)) {
                return false;
            }
            put(bends, a * TOWNS_MOST + b, bend);
            put(bends, b * TOWNS_MOST + a, bend);
            return true;
        }

        private boolean acceptsWalker(int kind, int pace, int unit) {
            if (walkerCount >= WALKERS_MOST || !within(kind, EXACT, COPIER)
                    || !within(pace, 1, 40) || !within(unit, 1, UNITS_MOST)) {
                return false;
            }
            put(kinds, walkerCount, kind);
            put(paces, walkerCount, pace);
            put(units, walkerCount, unit);
            walkerCount++;
            return true;
        }

        /** Once for each ball, as every walk and every guess asks for roads. */
        void measureRoads() {
            for (int a = 0; a < townCount; a++) {
                for (int b = 0; b < townCount; b++) {
                    int pair = a * TOWNS_MOST + b;
                    put(roads, pair, cut((long) straight(a, b) * (100 + at(bends, pair)), 100));
                }
            }
        }

        boolean isTown(int t) {
            return t >= 0 && t < townCount;
        }

        boolean areTwoTowns(int a, int b) {
            return isTown(a) && isTown(b) && a != b;
        }

        boolean isWalker(int w) {
            return w >= 0 && w < walkerCount;
        }

        int shadow(int t) {
            return Math.max(0, at(lies, t) + at(leans, t));
        }

        int liesApart(int a, int b) {
            return Math.abs(at(lies, a) - at(lies, b));
        }

        int shadowsApart(int a, int b) {
            return Math.abs(shadow(a) - shadow(b));
        }

        int straight(int a, int b) {
            return cut((long) girth * liesApart(a, b), 360);
        }

        int byRoad(int a, int b) {
            return at(roads, a * TOWNS_MOST + b);
        }

        int daysOf(int w, int a, int b) {
            return cut(byRoad(a, b), at(paces, w)) + 1;
        }

        /** The girth that comes of a WALKER's STADIA over so many degrees; NONE without degrees. */
        int girthOf(int w, int stadia, int degrees) {
            return degrees > 0 ? cut(36L * stadia * at(units, w), degrees) : NONE;
        }

        int offGirth(int other) {
            return Math.abs(other - girth);
        }

        boolean isNear(int meant, int hundredths) {
            return meant != NONE && 100L * offGirth(meant) <= (long) hundredths * girth;
        }
    }

    /** REPORTS, the oldest first, and the days of all WALKS. */
    private static final class Book {
        private final int[] who = new int[REPORTS_MOST];
        private final int[] from = new int[REPORTS_MOST];
        private final int[] to = new int[REPORTS_MOST];
        private final int[] stadia = new int[REPORTS_MOST];
        private int size = 0;
        private int days = 0;

        void clear() {
            size = 0;
            days = 0;
        }

        boolean has(int r) {
            return r >= 0 && r < size;
        }

        void add(int w, int a, int b, int told) {
            insertAt(size, w, a, b, told);
        }

        void insertAt(int r, int w, int a, int b, int told) {
            if (r < 0 || r > size || size >= REPORTS_MOST) {
                return;
            }
            openGap(who, r, size);
            openGap(from, r, size);
            openGap(to, r, size);
            openGap(stadia, r, size);
            put(who, r, w);
            put(from, r, a);
            put(to, r, b);
            put(stadia, r, told);
            size++;
        }

        void removeAt(int r) {
            if (!has(r)) {
                return;
            }
            closeGap(who, r, size);
            closeGap(from, r, size);
            closeGap(to, r, size);
            closeGap(stadia, r, size);
            size--;
        }

        void copyFrom(Book other) {
            copyRow(other.who, who);
            copyRow(other.from, from);
            copyRow(other.to, to);
            copyRow(other.stadia, stadia);
            size = other.size;
            days = other.days;
        }

        int latestOfAnother(int w, int a, int b) {
            for (int r = size - 1; r >= 0; r--) {
                if (at(who, r) != w && isBetween(r, a, b)) {
                    return at(stadia, r);
                }
            }
            return NONE;
        }

        private boolean isBetween(int r, int a, int b) {
            int start = at(from, r);
            int end = at(to, r);
            return start == a && end == b || start == b && end == a;
        }
    }

    /** The latest WALKS and STRIKINGS, the oldest first. */
    private static final class Trail {
        private static final int WALKED = -1;

        private final int[] places = new int[UNDO_MOST];
        private final int[] who = new int[UNDO_MOST];
        private final int[] from = new int[UNDO_MOST];
        private final int[] to = new int[UNDO_MOST];
        private final int[] stadia = new int[UNDO_MOST];
        private final int[] days = new int[UNDO_MOST];
        private int size = 0;

        void clear() {
            size = 0;
        }

        void rememberWalk(int took) {
            makeRoom();
            put(places, size, WALKED);
            put(days, size, took);
            size++;
        }

        void rememberStriking(Book book, int r) {
            makeRoom();
            put(places, size, r);
            put(who, size, at(book.who, r));
            put(from, size, at(book.from, r));
            put(to, size, at(book.to, r));
            put(stadia, size, at(book.stadia, r));
            size++;
        }

        void takeBack(Book book) {
            if (size == 0) {
                return;
            }
            size--;
            int place = at(places, size);
            if (place == WALKED) {
                book.removeAt(book.size - 1);
                book.days -= at(days, size);
            } else {
                book.insertAt(place, at(who, size), at(from, size), at(to, size), at(stadia, size));
            }
        }

        private void makeRoom() {
            if (size < UNDO_MOST) {
                return;
            }
            closeGap(places, 0, size);
            closeGap(who, 0, size);
            closeGap(from, 0, size);
            closeGap(to, 0, size);
            closeGap(stadia, 0, size);
            closeGap(days, 0, size);
            size--;
        }
    }

    /** What is SEEN. */
    private static final class Sightings {
        private final int[] who = new int[SEEN_MOST];
        private final int[] from = new int[SEEN_MOST];
        private final int[] to = new int[SEEN_MOST];
        private final int[] stadia = new int[SEEN_MOST];
        private int size = 0;

        void clear() {
            size = 0;
        }

        void add(int w, int a, int b, int n) {
            if (size >= SEEN_MOST) {
                return;
            }
            put(who, size, w);
            put(from, size, a);
            put(to, size, b);
            put(stadia, size, n);
            size++;
        }
    }

    /** The GIRTHS BY all REPORTS of a book, reckoned once for the means of many sets. */
    private static final class Girths {
        private final int[] asTold = new int[REPORTS_MOST];
        private final int[] miscounted = new int[REPORTS_MOST];
        private int size = 0;

        void reckon(Ball ball, Book book) {
            size = book.size;
            for (int r = 0; r < size; r++) {
                int w = at(book.who, r);
                int told = at(book.stadia, r);
                int apart = ball.shadowsApart(at(book.from, r), at(book.to, r));
                put(asTold, r, ball.girthOf(w, told, apart));
                put(miscounted, r, ball.girthOf(w, nineTenths(told), apart));
            }
        }

        int meanOf(int members, int shorts) {
            int sum = 0;
            int many = 0;
            for (int r = 0; r < size; r++) {
                int bit = 1 << r;
                int girth = (shorts & bit) != 0 ? at(miscounted, r) : at(asTold, r);
                if ((members & bit) != 0 && girth != NONE) {
                    sum += girth;
                    many++;
                }
            }
            return many > 0 ? sum / many : NONE;
        }
    }
}
