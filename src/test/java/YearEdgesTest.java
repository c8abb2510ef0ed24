/** Promises 23 to 27, edge by edge: miscount, year, keep, back, count. */
public final class YearEdgesTest {
    private static final int BAD = -1, NO = -2, FULL = -3, NONE = -4;
    private static final int MIN = Integer.MIN_VALUE, MAX = Integer.MAX_VALUE;
    private static final Due D = new Due();

    public static void main(String[] args) {
        nineTenths();
        outOfTen();
        hundredths();
        lowestTerms();
        withoutMean();
        miscountWrong();
        yearWrong();
        yearOfDraws();
        yearOfAsManyAsThereAre();
        yearOfTownsAlike();
        yearOfNineReports();
        yearFromNowOn();
        keepTwo();
        backToTheLast();
        nothingIsUndone();
        backToNothing();
        reportsAndDays();
        counts();
        D.end();
    }

    /** 400 MILES round, ten for 9 degrees: 400 by town 1, 360 by town 2; no degrees between 1 and 3. */
    private static GirthReports walked(int... towns) {
        GirthReports x = Due.laid("g10;t0,4;t9,4;t9,5;t9,4;r0,1,0;r0,2,0;w0,1,1;w0,1,9;");
        for (int t : towns) {
            x.walk(0, t == 3 ? 1 : 0, t);
        }
        return x;
    }

    private static void chance(GirthReports x, int e, int by, int above, int below) {
        String call = "miscount(" + e + ", " + by;
        D.due(call + ", 0)", above, x.miscount(e, by, 0));
        D.due(call + ", 1)", below, x.miscount(e, by, 1));
    }

    private static void nineTenths() {
        D.sentence("each REPORT tells nine tenths of its STADIA, cut");
        GirthReports x = walked();
        x.walk(1, 0, 1);
        // 11 STADIA of nine tenths: 396, off by 4; nine of them: 324, off by 76, nineteen hundredths; ten would be 360
        chance(x, 1, 3, 7, 10);
        chance(x, 18, 3, 7, 10);
        chance(x, 19, 3, 1, 1);
        // nothing told: nine tenths of it are nothing
        x = walked();
        x.walk(0, 1, 2);
        D.due("mean()", 0, x.mean());
        chance(x, 99, 5, 0, 1);
    }

    private static void outOfTen() {
        D.sentence("by x (0 to 10) of ten, for itself, else as it does");
        GirthReports x = walked(1);
        // 400, or 360
        chance(x, 0, 0, 1, 1);
        chance(x, 0, 1, 9, 10);
        chance(x, 0, 9, 1, 10);
        chance(x, 0, 10, 0, 1);
        chance(x, 10, 10, 1, 1);
        // each for itself: 400, 380 twice, 360
        x = walked(1, 1);
        chance(x, 0, 1, 81, 100);
        chance(x, 5, 1, 99, 100);
        chance(x, 0, 10, 0, 1);
        chance(x, 10, 10, 1, 1);
    }

    private static void hundredths() {
        D.sentence("the chance that MEAN is off the GIRTH by no more than e (0 to 99) hundredths of it");
        GirthReports x = walked(1);
        chance(x, 9, 3, 7, 10);
        chance(x, 10, 3, 1, 1);
        chance(x, 99, 3, 1, 1);
        // 360, or 324: off by 40 and by 76
        x = walked(2);
        chance(x, 0, 3, 0, 1);
        chance(x, 9, 3, 0, 1);
        chance(x, 10, 3, 7, 10);
        chance(x, 18, 3, 7, 10);
        chance(x, 19, 3, 1, 1);
        // above the GIRTH: 11 MILES over 9 degrees are 440, or 396
        x = Due.laid("g10;t0,4;t9,4;w0,1,1;");
        x.walk(0, 0, 1);
        chance(x, 0, 3, 0, 1);
        chance(x, 1, 3, 3, 10);
        chance(x, 9, 3, 3, 10);
        chance(x, 10, 3, 1, 1);
    }

    private static void lowestTerms() {
        D.sentence("in lowest terms");
        chance(walked(1), 0, 5, 1, 2);
        chance(walked(1), 0, 8, 1, 5);
        chance(walked(1, 1), 0, 5, 1, 4);
        chance(walked(1, 1), 5, 5, 3, 4);
        chance(walked(1, 1), 5, 2, 24, 25);
        chance(walked(1, 3), 0, 5, 1, 2);
        chance(walked(1, 3), 10, 5, 1, 1);
        GirthReports nine = walked(1, 1, 1, 1, 1, 1, 1, 1, 1);
        chance(nine, 0, 0, 1, 1);
        chance(nine, 0, 1, 387420489, 1000000000);
        chance(nine, 0, 5, 1, 512);
        chance(nine, 0, 9, 1, 1000000000);
        chance(nine, 0, 10, 0, 1);
        chance(nine, 10, 1, 1, 1);
        chance(nine, 9, 1, 999999999, 1000000000);
    }

    private static void withoutMean() {
        D.sentence("(0, if there is no MEAN)");
        for (int x = 0; x <= 10; x++) {
            chance(walked(), 99, x, 0, 1);
            chance(walked(3), 99, x, 0, 1);
            chance(walked(3, 3), 0, x, 0, 1);
        }
    }

    private static void miscountWrong() {
        D.sentence("MISCOUNT: above (part = 0), below (1). BAD.");
        GirthReports x = walked(1);
        GirthReports none = walked();
        for (int bad : new int[] {-1, 100, 101, MIN, MAX}) {
            D.due("miscount(" + bad + ", 5, 0)", BAD, x.miscount(bad, 5, 0));
            D.due("miscount(" + bad + ", 5, 1) of no reports", BAD, none.miscount(bad, 5, 1));
        }
        for (int bad : new int[] {-1, 11, 12, MIN, MAX}) {
            D.due("miscount(5, " + bad + ", 0)", BAD, x.miscount(5, bad, 0));
            D.due("miscount(5, " + bad + ", 1) of no reports", BAD, none.miscount(5, bad, 1));
        }
        for (int bad : new int[] {-1, 2, 3, MIN, MAX}) {
            D.due("miscount(5, 5, " + bad + ")", BAD, x.miscount(5, 5, bad));
            D.due("miscount(5, 5, " + bad + ") of no reports", BAD, none.miscount(5, 5, bad));
        }
    }

    private static void year(GirthReports x, int z, int n, int mean, int days) {
        String call = "year(" + z + ", " + n;
        D.due(call + ", 0)", mean, x.year(z, n, 0));
        D.due(call + ", 1)", days, x.year(z, n, 1));
    }

    private static void yearWrong() {
        D.sentence("A YEAR by z (0 to 9999) of n (1 to 40) WALKS");
        GirthReports x = new GirthReports();
        for (int bad : new int[] {-1, 10000, 10001, MIN, MAX}) {
            D.due("year(" + bad + ", 5, 0)", BAD, x.year(bad, 5, 0));
            D.due("year(" + bad + ", 5, 1)", BAD, x.year(bad, 5, 1));
        }
        for (int bad : new int[] {0, 41, -1, MIN, MAX}) {
            D.due("year(5, " + bad + ", 0)", BAD, x.year(5, bad, 0));
            D.due("year(0, " + bad + ", 1)", BAD, x.year(0, bad, 1));
        }
        for (int bad : new int[] {-1, 2, 3, MIN, MAX}) {
            D.due("year(5, 5, " + bad + ")", BAD, x.year(5, 5, bad));
            D.due("year(0, 1, " + bad + "), BAD ahead of NONE", BAD, x.year(0, 1, bad));
        }
        year(x, 0, 1, NONE, 0);
        year(x, 5, 40, 1531, 148);
    }

    private static void yearOfDraws() {
        D.sentence("DRAW being (x times x) modulo 65521, x 7919 z, 6151 k and 1 together");
        GirthReports x = new GirthReports();
        // DRAWS of 43735 (the COPIER between 1 and 2: 64 STADIA) and 44465 (ROUNDING, between 0 and 1)
        year(x, 4, 1, 1920, 2);
        year(x, 4, 2, (1920 + 1440) / 2, 4);
        // 47515 times itself is beyond an int; 18128: EXACT, between 0 and 2, 67 STADIA of 61 MILES
        year(x, 6, 1, 67 * 9 * 36 / 14, 4);
        // 79182082 times itself; 51303: the COPIER between 1 and 3, 254 STADIA of 127 MILES
        year(x, 9999, 1, 254 * 5 * 36 / 26, 5);
        // 65519, between 3 and 3; and a DRAW of nothing, between 0 and 0
        year(x, 7192, 1, NONE, 0);
        D.due("year(8058, 2, 1), a DRAW of nothing", x.year(8058, 1, 1), x.year(8058, 2, 1));
        D.due("year(8058, 2, 0), a DRAW of nothing", x.year(8058, 1, 0), x.year(8058, 2, 0));
    }

    private static void yearOfAsManyAsThereAre() {
        D.sentence("WALKER DRAW modulo as many as there are goes between TOWNS (DRAW by 4, cut) modulo as many as there are "
            + "and (DRAW by 32, cut) modulo as many");
        // a DRAW of 51303, by 4 of 12825, by 32 of 1603
        year(Due.laid("g9;t0,4;t10,4;w0,1,1;"), 9999, 1, NONE, 0);
        year(Due.laid("g9;t0,4;t10,4;t50,4;r0,1,0;w0,1,1;w2,1,1;"), 9999, 1, 324, 11);
        year(Due.laid("g9;t0,4;t10,4;t20,4;t40,4;t60,4;r0,3,0;w0,7,1;w2,1,1;w2,1,1;"), 9999, 1, 360, 6);
        year(Due.laid("g9;t0,4;t10,4;t20,4;t40,4;t60,4;t80,4;r1,3,0;w0,7,1;w2,1,1;w2,1,1;"), 9999, 1, 360, 5);
    }

    private static void yearOfTownsAlike() {
        D.sentence("if they are unlike");
        GirthReports x = new GirthReports();
        // DRAWS of 1 (between 0 and 0) and 41487 (the COPIER between 3 and 0)
        year(x, 0, 1, NONE, 0);
        year(x, 0, 2, 1672, 6);
        x.walk(1, 0, 1);
        year(x, 0, 1, 1440, 0);
        year(x, 0, 2, (1440 + 1672) / 2, 6);
        Due.walk(x, 8, 1, 0, 1);
        x.strike(0);
        x.walk(2, 0, 1);
        // nobody goes: none of the nine is struck out
        year(x, 0, 1, (8 * 1440 + 1134) / 9, 0);
    }

    private static void yearOfNineReports() {
        D.sentence("if there are 9 REPORTS, the first is STRUCK OUT ahead of that");
        GirthReports x = new GirthReports();
        x.walk(0, 1, 2);
        Due.walk(x, 7, 1, 0, 1);
        // eight: the COPIER has the first to copy, 35 STADIA
        year(x, 4, 1, (1890 + 7 * 1440 + 1050) / 9, 2);
        // a ninth is struck out by the second walk, not by the first
        year(x, 4, 2, (8 * 1440 + 1050) / 9, 4);
        x.walk(1, 0, 1);
        // nine: what he would copy is struck out ahead
        year(x, 4, 1, (8 * 1440 + 1920) / 9, 2);
        year(x, 4, 2, (8 * 1440 + 1920) / 9, 4);
        D.due("mean(), the year over", (1890 + 8 * 1440) / 9, x.mean());
    }

    private static void yearFromNowOn() {
        D.sentence("MEAN then (none); days in it.");
        GirthReports x = new GirthReports();
        x.walk(0, 0, 1);
        x.walk(2, 0, 3);
        // days ahead of it do not count, reports do
        year(x, 4, 1, (1296 + 1496 + 1920) / 3, 2);
        year(x, 0, 1, (1296 + 1496) / 2, 0);
        Twins.unchanged(D, "year(4, 40, 0)", x.year(4, 40, 0), () -> {
            GirthReports y = new GirthReports();
            y.walk(0, 0, 1);
            y.walk(2, 0, 3);
            return y;
        }, y -> y.year(4, 40, 0));
        // no degrees between any two
        x = Due.laid("g9;t10,4;t14,0;t9,5;t11,3;w0,1,1;");
        D.due("year(4, 40, 0) without degrees", NONE, x.year(4, 40, 0));
        D.holds("year(4, 40, 1) without degrees", x.year(4, 40, 1) > 0);
    }

    private static void keepTwo() {
        D.sentence("KEPT are REPORTS and days: 2 at most.");
        GirthReports x = new GirthReports();
        D.due("keep() of nothing", 1, x.keep());
        D.due("keep() of the same", 2, x.keep());
        D.due("keep(), the third", FULL, x.keep());
        D.due("kept", 2, x.count(7));
        x.walk(0, 0, 1);
        D.due("keep(), the third again", FULL, x.keep());
        D.due("back()", 1, x.back());
        D.due("a refused keep() kept nothing", 0, x.count(3));
        for (int i = 0; i < 5; i++) {
            x.walk(0, 0, 1);
            D.due("keep() and back(), time and again", 2, x.keep());
            D.due("back()", 1, x.back());
            D.due("reports", i + 1, x.count(3));
        }
        D.due("back() to the first", 0, x.back());
        D.due("reports of the first", 0, x.count(3));
    }

    private static void backToTheLast() {
        D.sentence("As KEPT last: how many are left");
        GirthReports x = new GirthReports();
        x.walk(0, 0, 1);
        x.keep();
        x.walk(1, 2, 3);
        x.keep();
        x.strike(0);
        x.walk(2, 3, 0);
        D.due("back()", 1, x.back());
        D.due("reports, as kept last", 2, x.count(3));
        D.due("report(0, 3), as kept last", 32, x.report(0, 3));
        D.due("report(1, 3), as kept last", 140, x.report(1, 3));
        D.due("days, as kept last", 7, x.count(4));
        D.due("kept", 1, x.count(7));
        D.due("back() to the first", 0, x.back());
        D.due("reports, as kept first", 1, x.count(3));
        D.due("days, as kept first", 2, x.count(4));
        D.due("report(1, 3)", BAD, x.report(1, 3));
        x = new GirthReports();
        Due.walk(x, 8, 0, 0, 1);
        x.walk(2, 3, 0);
        x.keep();
        for (int i = 0; i < 9; i++) {
            x.strike(0);
        }
        D.due("back() to nine", 0, x.back());
        D.due("reports, nine", 9, x.count(3));
        D.due("the ninth", 157, x.report(8, 3));
        D.due("walk(), full", FULL, x.walk(0, 0, 1));
    }

    private static void nothingIsUndone() {
        D.sentence("nothing is UNDONE then");
        GirthReports x = new GirthReports();
        Due.walk(x, 3, 0, 0, 1);
        x.keep();
        D.due("keep(): can be undone, still", 3, x.count(6));
        D.due("back()", 0, x.back());
        D.due("back(): can be undone", 0, x.count(6));
        D.due("back(): undo()", NO, x.undo());
        D.due("back(): reports", 3, x.count(3));
        x.walk(1, 2, 3);
        D.due("back(): undo() of what comes behind", 0, x.undo());
        D.due("back(): no more", NO, x.undo());
        D.due("back(): reports, still", 3, x.count(3));
        x.keep();
        x.walk(1, 2, 3);
        D.due("undo() behind keep()", 0, x.undo());
        D.due("what is kept is not undone", 1, x.count(7));
    }

    private static void backToNothing() {
        D.sentence("nothing is UNDONE then. NO.");
        GirthReports x = new GirthReports();
        D.due("back() of nothing", NO, x.back());
        x.walk(0, 0, 1);
        D.due("back() of nothing, with a report", NO, x.back());
        D.due("a refused back(): reports", 1, x.count(3));
        D.due("a refused back(): can be undone", 1, x.count(6));
        x.keep();
        x.back();
        D.due("back() of no more", NO, x.back());
    }

    private static void reportsAndDays() {
        D.sentence("KEPT are REPORTS and days");
        GirthReports x = new GirthReports();
        x.write('g');
        x.see(0, 0, 1, 5);
        x.walk(0, 0, 1);
        x.keep();
        x.write('1');
        x.see(1, 0, 1, 5);
        x.strike(0);
        x.walk(0, 0, 1);
        D.due("days", 4, x.count(4));
        x.back();
        D.due("back(): days", 2, x.count(4));
        D.due("back(): letters stay", 2, x.count(8));
        D.due("back(): what is seen stays", 2, x.count(5));
        x.keep();
        x.wipe();
        x.forget();
        x.back();
        D.due("back(): wiped letters stay so", 0, x.count(8));
        D.due("back(): what is forgotten stays so", 0, x.count(5));
    }

    private static void counts() {
        D.sentence("How many: 0 TOWNS, 1 WALKERS, 2 the GIRTH, 3 REPORTS, 4 days of all WALKS, 5 SEEN, "
            + "6 that can be UNDONE, 7 KEPT, 8 letters of THE TEXT. BAD.");
        GirthReports x = new GirthReports();
        int[] first = {4, 4, 1440, 0, 0, 0, 0, 0, 0};
        for (int what = 0; what <= 8; what++) {
            D.due("at first: count(" + what + ")", first[what], x.count(what));
        }
        x = Due.laid("g99;t0,4;t80,4;t1,4;t2,4;t3,4;t4,4;r0,1,50;w0,1,1;w0,1,1;w0,1,1;w0,1,1;");
        Due.walk(x, 9, 0, 0, 1);
        x.keep();
        x.keep();
        for (int i = 0; i < 6; i++) {
            x.see(0, 0, 1, i);
        }
        while (x.count(8) < 200) {
            x.write('x');
        }
        int[] full = {6, 4, 3960, 9, 9 * 1321, 6, 8, 2, 200};
        for (int what = 0; what <= 8; what++) {
            D.due("full: count(" + what + ")", full[what], x.count(what));
        }
        for (int bad : new int[] {-1, 9, 10, MIN, MAX}) {
            D.due("count(" + bad + ")", BAD, x.count(bad));
        }
    }
}
