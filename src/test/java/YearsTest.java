/** Promises 23 to 27: miscount, year, keep, back, count. */
public final class YearsTest {
    private static final int BAD = -1, NO = -2, FULL = -3, NONE = -4;
    private static final Due D = new Due();

    public static void main(String[] args) {
        miscountOfNone();
        miscountOfOne();
        miscountOfTwo();
        miscountOfNine();
        year();
        yearOfFullBooks();
        yearChangesNothing();
        keep();
        back();
        count();
        D.end();
    }

    private static void chance(GirthReports x, int e, int by, int above, int below) {
        String call = "miscount(" + e + ", " + by;
        D.due(call + ", 0)", above, x.miscount(e, by, 0));
        D.due(call + ", 1)", below, x.miscount(e, by, 1));
    }

    private static void miscountOfNone() {
        GirthReports x = new GirthReports();
        chance(x, 99, 5, 0, 1);
        int[][] bad = {{-1, 5, 0}, {100, 5, 0}, {5, -1, 0}, {5, 11, 0}, {5, 5, 2}, {5, 5, -1}};
        for (int[] b : bad) {
            D.due("miscount(" + b[0] + ", " + b[1] + ", " + b[2] + ")", BAD, x.miscount(b[0], b[1], b[2]));
        }
        x = Due.laid("g90;t10,4;t11,3;w0,10,3;");
        x.walk(0, 0, 1);
        chance(x, 99, 5, 0, 1);
    }

    private static void miscountOfOne() {
        GirthReports x = new GirthReports();
        x.walk(1, 0, 1);
        // 40 STADIA: 1440, or 36: 1296, off by ten hundredths
        chance(x, 0, 0, 1, 1);
        chance(x, 0, 1, 9, 10);
        chance(x, 0, 3, 7, 10);
        chance(x, 0, 5, 1, 2);
        chance(x, 9, 8, 1, 5);
        chance(x, 9, 10, 0, 1);
        chance(x, 10, 8, 1, 1);
        chance(x, 10, 10, 1, 1);
        chance(x, 99, 4, 1, 1);
        x.strike(0);
        x.walk(0, 0, 1);
        // 32 STADIA: 1296, or 28 (of 28.8): 1134, off by 306
        chance(x, 9, 5, 0, 1);
        chance(x, 10, 5, 1, 2);
        chance(x, 21, 5, 1, 2);
        chance(x, 22, 5, 1, 1);
    }

    private static void miscountOfTwo() {
        GirthReports x = new GirthReports();
        x.walk(1, 0, 1);
        x.walk(1, 1, 0);
        // 1440, 1368 (by either), 1296: off by 0, 5 and 10 hundredths
        chance(x, 0, 3, 49, 100);
        chance(x, 4, 3, 49, 100);
        chance(x, 5, 3, 91, 100);
        chance(x, 5, 5, 3, 4);
        chance(x, 5, 2, 24, 25);
        chance(x, 10, 3, 1, 1);
        x = Due.laid("g90;t10,4;t11,3;t30,4;w0,10,3;");
        x.walk(0, 0, 1);
        x.walk(0, 0, 2);
        // the first has no GIRTH; 733: 3958, off by 358 of 3600; 659: 3558
        chance(x, 2, 3, 3, 10);
        chance(x, 9, 3, 3, 10);
        chance(x, 10, 3, 1, 1);
    }

    private static void miscountOfNine() {
        GirthReports x = new GirthReports();
        for (int i = 0; i < 9; i++) {
            x.walk(1, 0, 1);
        }
        // all as they are, or one of them off by 144 of 9 times 1440: 1424, off by 16
        chance(x, 0, 1, 387420489, 1000000000);
        chance(x, 0, 0, 1, 1);
        chance(x, 0, 10, 0, 1);
        chance(x, 1, 1, 387420489, 1000000000);
        chance(x, 2, 1, 774840978 / 2, 1000000000 / 2);
        chance(x, 2, 5, 5, 256);
        chance(x, 10, 7, 1, 1);
        chance(x, 9, 9, 1000000000 - 387420489, 1000000000);
        D.due("miscount changes nothing", 1440, x.mean());
    }

    private static void year() {
        GirthReports x = new GirthReports();
        int[][] bad = {{-1, 5, 0}, {10000, 5, 0}, {5, 0, 0}, {5, 41, 0}, {5, 5, 2}, {5, 5, -1}};
        for (int[] b : bad) {
            D.due("year(" + b[0] + ", " + b[1] + ", " + b[2] + ")", BAD, x.year(b[0], b[1], b[2]));
        }
        // z of 0: the DRAW of k 0 is 1: WALKER 1 goes between TOWNS 0 and 0, not at all
        D.due("year(0, 1, 0)", NONE, x.year(0, 1, 0));
        D.due("year(0, 1, 1)", 0, x.year(0, 1, 1));
        // k of 1: 6152 times 6152 modulo 65521 is 41487: WALKER 3, TOWNS 10371 and 1296: 3 and 0
        D.due("year(0, 2, 1), 158 by 30", 6, x.year(0, 2, 1));
        D.due("year(0, 2, 0)", 1672, x.year(0, 2, 0));
        // z of 1: 7920 times 7920 modulo 65521 is 22803: WALKER 3, TOWNS 5700 and 712: 0 and 0
        D.due("year(1, 1, 1)", 0, x.year(1, 1, 1));
        D.due("year(5, 40, 0)", 1531, x.year(5, 40, 0));
        D.due("year(5, 40, 1)", 148, x.year(5, 40, 1));
        x.walk(0, 0, 3);
        // from now on: the COPIER has whom to copy, 175 STADIA
        D.due("year(0, 2, 0), copied", (1667 + 926) / 2, x.year(0, 2, 0));
        D.due("year(0, 2, 1), its days alone", 6, x.year(0, 2, 1));
        D.holds("year(9999, 40, 0) has a MEAN", x.year(9999, 40, 0) > 0);
        D.holds("year(9999, 40, 1) has days", x.year(9999, 40, 1) > 0);
    }

    private static void yearOfFullBooks() {
        GirthReports x = new GirthReports();
        x.walk(0, 0, 3);
        for (int i = 0; i < 8; i++) {
            x.walk(1, 0, 1);
        }
        // only unlike TOWNS strike a report out: 1667 and eight of 1440
        D.due("year(0, 1, 0) of nine", (1667 + 8 * 1440) / 9, x.year(0, 1, 0));
        // the first, which he would copy, is struck out ahead of his walk
        D.due("year(0, 2, 0) of nine", (8 * 1440 + 1672) / 9, x.year(0, 2, 0));
        D.due("year(0, 2, 1) of nine", 6, x.year(0, 2, 1));
    }

    private static void yearChangesNothing() {
        GirthReports x = new GirthReports();
        x.walk(0, 0, 1);
        x.keep();
        x.see(0, 0, 1, 32);
        x.year(77, 40, 0);
        x.year(77, 40, 1);
        int[] counts = {4, 4, 1440, 1, 2, 1, 1, 1, 0};
        for (int what = 0; what < counts.length; what++) {
            D.due("after a year: count(" + what + ")", counts[what], x.count(what));
        }
        D.due("after a year: the report", 32, x.report(0, 3));
    }

    private static void keep() {
        GirthReports x = new GirthReports();
        D.due("keep()", 1, x.keep());
        x.walk(0, 0, 1);
        D.due("keep() of one", 2, x.keep());
        D.due("keep() of a third", FULL, x.keep());
        D.due("kept", 2, x.count(7));
        D.due("to undo, still", 1, x.count(6));
        x.walk(0, 2, 3);
        D.due("back()", 1, x.back());
        D.due("as kept last", 1, x.count(3));
        D.due("keep() again", 2, x.keep());
        x.back();
        D.due("back() to the first", 0, x.back());
        D.due("as kept first", 0, x.count(3));
    }

    private static void back() {
        GirthReports x = new GirthReports();
        D.due("back() of nothing", NO, x.back());
        x.walk(0, 0, 1);
        x.walk(1, 2, 3);
        x.keep();
        x.strike(0);
        x.walk(2, 3, 0);
        x.walk(2, 3, 0);
        x.see(0, 0, 1, 5);
        D.due("back()", 0, x.back());
        int[][] due = {{0, 0, 1, 32}, {1, 2, 3, 140}};
        for (int r = 0; r < 2; r++) {
            for (int what = 0; what < 4; what++) {
                D.due("back: report(" + r + ", " + what + ")", due[r][what], x.report(r, what));
            }
        }
        D.due("back: reports", 2, x.count(3));
        D.due("back: days", 7, x.count(4));
        D.due("back: what is seen stays", 1, x.count(5));
        D.due("back: to undo", 0, x.count(6));
        D.due("back: undo()", NO, x.undo());
        D.due("back: kept", 0, x.count(7));
        D.due("back() again", NO, x.back());
        D.due("a refused back() changes nothing", 2, x.count(3));
        x.strike(0);
        D.due("back: undo() of what came behind", 0, x.undo());
        D.due("back: as it was", 32, x.report(0, 3));
    }

    private static void count() {
        GirthReports x = Due.laid("g99;t0,0;t1,1;t2,2;w0,1,1;w0,1,1;");
        x.walk(0, 0, 1);
        x.walk(0, 0, 2);
        x.walk(1, 1, 2);
        x.strike(0);
        x.see(0, 0, 1, 5);
        x.see(0, 0, 1, 5);
        x.keep();
        // 12, 24 and 12 MILES at one a day
        int[] counts = {3, 2, 3960, 2, 51, 2, 4, 1, 33};
        for (int what = 0; what < counts.length; what++) {
            D.due("count(" + what + ")", counts[what], x.count(what));
        }
        D.due("count(9)", BAD, x.count(9));
        D.due("count(-1)", BAD, x.count(-1));
        D.due("count(MIN)", BAD, x.count(Integer.MIN_VALUE));
    }
}
