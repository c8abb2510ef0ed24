/** Promises 13 to 18: mean, all, next, fewest, cancel, sail. */
public final class GirthTest {
    private static final int BAD = -1, NONE = -4;
    private static final Due D = new Due();

    public static void main(String[] args) {
        mean();
        all();
        allWithoutClash();
        next();
        nextOfSeveral();
        nextOfACopier();
        fewest();
        fewestOfFour();
        cancel();
        cancelOfACopier();
        cancelWithoutDegrees();
        sail();
        sailToTheMile();
        D.end();
    }

    private static void mean() {
        GirthReports x = new GirthReports();
        D.due("mean() of none", NONE, x.mean());
        x.walk(0, 0, 1);
        D.due("mean() of 1296", 1296, x.mean());
        x.walk(2, 0, 1);
        D.due("mean() of 1296, 1134", 1215, x.mean());
        x.walk(1, 0, 1);
        D.due("mean() of 1296, 1134, 1440", 1290, x.mean());
        x.walk(0, 2, 3);
        // 126 times 9 times 36 by 20
        D.due("mean(), cut, of 1296, 1134, 1440, 2041", 1477, x.mean());
        x = Due.laid("g90;t10,4;t11,3;t30,4;w0,10,3;");
        x.walk(0, 0, 1);
        D.due("mean() of a report without degrees", NONE, x.mean());
        x.walk(0, 0, 2);
        D.due("mean() of those that have one", 3958, x.mean());
    }

    private static void all() {
        GirthReports x = new GirthReports();
        D.due("all(3) of none", BAD, x.all(3));
        D.due("all(-1) of none", BAD, x.all(-1));
        for (int what = 0; what < 3; what++) {
            D.due("all(" + what + ") of none", NONE, x.all(what));
        }
        x.walk(0, 0, 1);
        D.due("all(0) of one", 1036, x.all(0));
        D.due("all(1) of one", 1728, x.all(1));
        D.due("all(2) of one", 0, x.all(2));
        x.walk(0, 2, 3);
        // 126 times 324 by 22 and by 18
        D.due("all(0) of two", 1855, x.all(0));
        D.due("all(1) of two", 1728, x.all(1));
        D.due("all(2) of two", 1, x.all(2));
        D.due("all(3)", BAD, x.all(3));
        x = Due.laid("g90;t10,4;t12,4;t30,4;w0,10,3;w0,10,9;");
        x.walk(0, 0, 1);
        for (int what = 0; what < 3; what++) {
            D.due("all(" + what + ") without a most", NONE, x.all(what));
        }
        x.walk(0, 0, 2);
        D.due("all(0) of those that have a most", 3598, x.all(0));
        D.due("all(1) of those that have a most", 4398, x.all(1));
        x.walk(0, 0, 1);
        D.due("all(0), one without a most behind it", 3598, x.all(0));
        D.due("all(1), one without a most behind it", 4398, x.all(1));
    }

    private static void allWithoutClash() {
        // nothing between degrees of 4 miles: least and most are both 0, and that is no clash
        GirthReports x = Due.laid("g1;t0,4;t0,8;w0,1,1;");
        x.walk(0, 0, 1);
        D.due("all(0) of nothing", 0, x.all(0));
        D.due("all(1) of nothing", 0, x.all(1));
        D.due("all(2), alike", 0, x.all(2));
    }

    private static void next() {
        GirthReports x = new GirthReports();
        int[] narrow = {196, 200, 176, 197};
        for (int w = 0; w < 4; w++) {
            D.due("next(" + w + ", 0)", 3, x.next(w, 0));
            D.due("next(" + w + ", 1)", narrow[w], x.next(w, 1));
        }
        D.due("next(4, 0)", BAD, x.next(4, 0));
        D.due("next(-1, 0)", BAD, x.next(-1, 0));
        D.due("next(0, 2)", BAD, x.next(0, 2));
        D.due("next(0, -1)", BAD, x.next(0, -1));
        x = Due.laid("t10,4;t12,4;w0,1,1;");
        D.due("next(0, 0) without a most", NONE, x.next(0, 0));
        D.due("next(0, 1) without a most", NONE, x.next(0, 1));
        D.due("next(1, 0) without a most", BAD, x.next(1, 0));
        x = Due.laid("t10,4;t13,4;w0,1,1;");
        D.due("next(0, 0) of 3 degrees", 1, x.next(0, 0));
        // 13 MILES: 130 times 36 by 1 and by 5
        D.due("next(0, 1) of 3 degrees", 4680 - 936, x.next(0, 1));
        x = new GirthReports();
        for (int i = 0; i < 9; i++) {
            x.walk(0, 0, 1);
        }
        D.due("next(0, 0) with nine reports", 3, x.next(0, 0));
    }

    private static void nextOfSeveral() {
        GirthReports x = Due.laid("g36;t40,4;t60,4;t20,4;t40,4;w0,1,1;");
        // the pairs 01, 02, 13, 23 lie 20 apart, 12 lies 40 apart
        D.due("next(0, 0), the widest apart", 12, x.next(0, 0));
        x = Due.laid("g36;t50,4;t60,4;t50,4;t60,4;w0,1,1;");
        D.due("next(0, 0), the first of four", 1, x.next(0, 0));
        x = Due.laid("g36;t50,4;t50,4;t50,4;t60,4;t60,4;w0,1,1;r0,3,50;r0,4,50;");
        D.due("next(0, 0), by the lower, then the higher", 13, x.next(0, 0));
    }

    private static void nextOfACopier() {
        GirthReports x = Due.laid("g36;t10,4;t20,4;t50,4;w3,1,9;w0,1,1;");
        D.due("next(0, 0) of a COPIER as an EXACT one", 2, x.next(0, 0));
        x.walk(1, 2, 0);
        // 1760 STADIA of nine tenths, over 42 and over 38 degrees
        int wide = 1760 * 324 / 38 - 1760 * 324 / 42;
        // 132 MILES are 146 of them, over 32 and over 28
        int own = 146 * 324 / 28 - 146 * 324 / 32;
        D.holds("next: what he would copy is wider", wide > own);
        D.due("next(0, 0) of a COPIER who would copy", 12, x.next(0, 0));
        D.due("next(0, 1) of a COPIER who would copy", own, x.next(0, 1));
        x.strike(0);
        D.due("next(0, 0) of a COPIER, struck out", 2, x.next(0, 0));
    }

    private static void fewest() {
        GirthReports x = new GirthReports();
        D.due("fewest(5, 0) of none", NONE, x.fewest(5, 0));
        D.due("fewest(99, 1) of none", NONE, x.fewest(99, 1));
        int[][] bad = {{-1, 0}, {100, 0}, {5, 2}, {5, -1}};
        for (int[] b : bad) {
            D.due("fewest(" + b[0] + ", " + b[1] + ")", BAD, x.fewest(b[0], b[1]));
        }
        x.walk(0, 0, 1);
        // 1296 is off 1440 by 144, ten hundredths
        D.due("fewest(9, 0)", NONE, x.fewest(9, 0));
        D.due("fewest(10, 0)", 1, x.fewest(10, 0));
        D.due("fewest(10, 1)", 1, x.fewest(10, 1));
        x.walk(1, 0, 1);
        D.due("fewest(0, 0), one of 1440", 1, x.fewest(0, 0));
        D.due("fewest(0, 1), one of 1440", 2, x.fewest(0, 1));
        D.due("fewest(10, 1), the lowest", 1, x.fewest(10, 1));
        x.strike(1);
        x.walk(0, 2, 3);
        // 1296 and 2041: 1668, off by 228
        D.due("fewest(15, 1)", 1, x.fewest(15, 1));
        D.due("fewest(9, 1)", NONE, x.fewest(9, 1));
        x.walk(2, 0, 1);
        // 1134 and 2041: 1587, off by 147; all three: 1490, off by 50, four hundredths
        D.due("fewest(9, 0) of three", 3, x.fewest(9, 0));
        D.due("fewest(9, 1) of three", 7, x.fewest(9, 1));
        D.due("fewest(3, 0) of three", NONE, x.fewest(3, 0));
        D.due("fewest(4, 0) of three", 3, x.fewest(4, 0));
    }

    private static void fewestOfFour() {
        // 360 MILES round, one a degree
        GirthReports x = Due.laid("g9;t0,4;t10,4;t50,4;r0,1,50;r0,2,0;w2,1,1;w0,1,1;");
        x.walk(1, 0, 1);
        for (int i = 0; i < 4; i++) {
            x.walk(0, 0, 2);
        }
        // 540 and four of 324: with one 432, two 396, three 378, four 367
        D.due("fewest: 540", 540, x.report(0, 4));
        D.due("fewest: 324", 324, x.report(1, 4));
        D.due("fewest(20, 1)", 2, x.fewest(20, 1));
        D.due("fewest(10, 1), one of 324", 2, x.fewest(10, 1));
        D.due("fewest(9, 1), no one alone", 15, x.fewest(9, 1));
        D.due("fewest(9, 0), three of 324 and one", 4, x.fewest(9, 0));
        D.due("fewest(5, 0), four at most", 4, x.fewest(5, 0));
        D.due("fewest(5, 1), four at most", 15, x.fewest(5, 1));
        D.due("fewest(4, 0), five would be needed", NONE, x.fewest(4, 0));
        D.due("mean() of the five", 367, x.mean());
    }

    private static void cancel() {
        GirthReports x = new GirthReports();
        D.due("cancel(0, 0) of none", BAD, x.cancel(0, 0));
        // SHORT, 31 to 60 degrees: STRAIGHT 116, by ROAD 127; shadows 32 and 58
        x.walk(2, 1, 3);
        D.due("cancel: STADIA", 126, x.report(0, 3));
        D.due("cancel: GIRTH", 1570, x.report(0, 4));
        // off by 130; without 1: 115, 1433; 2: 126, 1407; 3: 115, 1284; 4: 141, 1757; 5: 128, 1595;
        // 6: 141, 1575; 7: 128, 1430
        D.due("cancel(0, 0)", 1 << 1 | 1 << 2 | 1 << 7, x.cancel(0, 0));
        D.due("cancel(0, 1)", 7, x.cancel(0, 1));
        // EXACT, the same way: 141, 1757, off by 317; 1: 1595; 2: 1575; 3: 1430; 4 alone changes nothing
        x.walk(0, 3, 1);
        D.due("cancel(1, 0)", 1 << 1 | 1 << 2 | 1 << 3 | 1 << 5 | 1 << 6 | 1 << 7, x.cancel(1, 0));
        D.due("cancel(1, 1)", 10, x.cancel(1, 1));
        D.due("cancel(2, 0)", BAD, x.cancel(2, 0));
        D.due("cancel(-1, 0)", BAD, x.cancel(-1, 0));
        D.due("cancel(0, 2)", BAD, x.cancel(0, 2));
        D.due("cancel(0, -1)", BAD, x.cancel(0, -1));
        // ROUNDING from 24 to 31 is right as it is: nothing is off less than by nothing
        x.walk(1, 0, 1);
        D.due("cancel(2, 0) of 1440", 0, x.cancel(2, 0));
        D.due("cancel(2, 1) of 1440", 0, x.cancel(2, 1));
    }

    private static void cancelOfACopier() {
        GirthReports x = new GirthReports();
        // no one to copy: as an EXACT one, 316 STADIA of a half over 158 MILES and 34 degrees
        x.walk(3, 0, 3);
        D.due("cancel: a COPIER's GIRTH", 1672, x.report(0, 4));
        // off by 232; its ROAD alone changes nothing; 2: 1580 over 36; 4: as it is; 5: 144 MILES, 288,
        // 1524; 6: 1580; 7: 1440
        D.due("cancel(0, 0) of a COPIER", 1 << 2 | 1 << 3 | 1 << 5 | 1 << 6 | 1 << 7, x.cancel(0, 0));
        D.due("cancel(0, 1) of a COPIER", 0, x.cancel(0, 1));
        x = new GirthReports();
        x.walk(0, 0, 3);
        x.walk(3, 0, 3);
        D.due("cancel: what he copied", 175, x.report(1, 3));
        // 926, off by 514; 2: 875; 4: 1672, off by 232; 5: 1524, 84; 6: 1580, 140; 7: 1440
        D.due("cancel(1, 0) of what is copied", 1 << 4 | 1 << 5 | 1 << 6 | 1 << 7, x.cancel(1, 0));
        D.due("cancel(1, 1) of what is copied", 0, x.cancel(1, 1));
        int before = x.cancel(1, 0);
        x.strike(0);
        D.due("cancel(0, 0), the copied one struck out", before, x.cancel(0, 0));
    }

    private static void cancelWithoutDegrees() {
        GirthReports x = Due.laid("g90;t10,4;t11,3;t10,8;w0,10,1;w3,1,1;");
        x.walk(0, 0, 1);
        D.due("cancel(0, 0) without a GIRTH", NONE, x.cancel(0, 0));
        D.due("cancel(0, 1) without a GIRTH", NONE, x.cancel(0, 1));
        D.due("cancel(0, 2) without a GIRTH", BAD, x.cancel(0, 2));
        x.walk(0, 0, 2);
        // nothing over 4 degrees: off by all 3600; without the wells there are no degrees
        D.due("cancel(1, 0) of nothing", 0, x.cancel(1, 0));
        D.due("cancel(1, 1) of nothing", 3600, x.cancel(1, 1));
        x.walk(0, 1, 2);
        // 11 MILES, 110 STADIA over 4 degrees: 990; over 1: 3960; STRAIGHT 10 MILES: 900, 3600
        D.due("cancel(2, 0)", 1 << 2 | 1 << 3 | 1 << 6 | 1 << 7, x.cancel(2, 0));
        D.due("cancel(2, 1)", 0, x.cancel(2, 1));
    }

    private static void sail() {
        GirthReports x = new GirthReports();
        D.due("sail(100, 5) without a MEAN", NONE, x.sail(100, 5));
        int[][] bad = {{0, 5}, {361, 5}, {9, 0}, {9, 100}, {-1, 5}, {9, -1}};
        for (int[] b : bad) {
            D.due("sail(" + b[0] + ", " + b[1] + ")", BAD, x.sail(b[0], b[1]));
        }
        x.walk(2, 0, 1);
        // MEAN 1134, GIRTH 1440
        D.due("sail(360, 11)", 0, x.sail(360, 11));
        D.due("sail(360, 12)", 1, x.sail(360, 12));
        D.due("sail(360, 14)", 1, x.sail(360, 14));
        D.due("sail(360, 15)", 2, x.sail(360, 15));
        D.due("sail(25, 1), just there", 2, x.sail(25, 1));
        D.due("sail(26, 1), by 81 of 104", 1, x.sail(26, 1));
        // 32 degrees of 1134 are 100.8, cut
        D.due("sail(32, 1), cut", 1, x.sail(32, 1));
        D.due("sail(33, 1)", 0, x.sail(33, 1));
        D.due("sail(1, 1)", 2, x.sail(1, 1));
        D.due("sail(360, 99)", 2, x.sail(360, 99));
        D.due("sail(361, 99)", BAD, x.sail(361, 99));
        x.strike(0);
        x.walk(0, 2, 3);
        // MEAN 2041: he would come there, and does not dare
        D.due("sail(360, 20)", 0, x.sail(360, 20));
        D.due("sail(360, 21)", 2, x.sail(360, 21));
        x = Due.laid("g99;t0,4;t80,4;t1,4;t2,3;w0,1,1;w3,1,9;r0,1,50;");
        x.walk(0, 0, 1);
        x.walk(1, 0, 1);
        D.due("sail, a far too great girth", 0, x.sail(360, 99));
    }

    private static void sailToTheMile() {
        // 360 MILES round: a degree is a MILE
        GirthReports x = Due.laid("g9;t0,4;t50,4;r0,1,0;w0,1,1;w2,1,1;");
        x.walk(0, 0, 1);
        D.due("sail: MEAN", 360, x.mean());
        D.due("sail(100, 1)", 2, x.sail(100, 1));
        D.due("sail(101, 1)", 0, x.sail(101, 1));
        D.due("sail(300, 3)", 2, x.sail(300, 3));
        D.due("sail(301, 3)", 0, x.sail(301, 3));
        x.strike(0);
        x.walk(1, 0, 1);
        D.due("sail: a SHORT MEAN", 324, x.mean());
        D.due("sail(100, 1), SHORT", 2, x.sail(100, 1));
        D.due("sail(101, 1), SHORT", 1, x.sail(101, 1));
        // 111 degrees of 324 are 99.9, 112 are 100.8, 113 are 101.7
        D.due("sail(112, 1), SHORT", 1, x.sail(112, 1));
        D.due("sail(113, 1), SHORT", 0, x.sail(113, 1));
    }
}
