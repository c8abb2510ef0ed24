/** Promises 13 to 18, edge by edge: mean, all, next, fewest, cancel, sail. */
public final class GirthEdgesTest {
    private static final int BAD = -1, NONE = -4;
    private static final int MIN = Integer.MIN_VALUE, MAX = Integer.MAX_VALUE;
    private static final int EXACT = 0, SHORT = 1, COPIER = 2;
    private static final Due D = new Due();

    public static void main(String[] args) {
        mean();
        all();
        allNone();
        clash();
        nextNarrowest();
        nextOfSeveral();
        nextWrong();
        fewestHundredths();
        fewestOfOneToFour();
        fewestOfSeveral();
        fewestWrong();
        cancelOffLess();
        cancelAsItIs();
        cancelOfACopier();
        cancelWithoutDegrees();
        cancelWrong();
        sailHowFar();
        sailWhoDares();
        sailWhoComesThere();
        sailWithoutMean();
        D.end();
    }

    /**
     * 400 MILES round: ten for 9 degrees. All towns but the first lie 9 degrees north; their shadows are
     * at 9, 10, 8, 9 and 13. The road to town 1 is of 11 MILES, those to the others of 10.
     */
    private static GirthReports nineDegrees() {
        return Due.laid("g10;t0,4;t9,4;t9,5;t9,3;t9,4;t9,8;r0,2,0;r0,3,0;r0,4,0;r0,5,0;w0,1,1;w2,1,1;w3,1,1;");
    }

    private static GirthReports nineDegrees(int[]... walks) {
        GirthReports x = nineDegrees();
        Due.walk(x, walks);
        return x;
    }

    // 100 or 110 STADIA, and nine tenths of them, over 8 to 13 degrees
    private static final int[] OF_249 = {SHORT, 0, 5}, OF_324 = {SHORT, 0, 2}, OF_360 = {EXACT, 0, 2},
        OF_396 = {SHORT, 0, 1}, OF_400 = {EXACT, 0, 4}, OF_405 = {SHORT, 0, 3}, OF_440 = {EXACT, 0, 1},
        OF_450 = {EXACT, 0, 3};
    private static final int[] OF_NOTHING = {EXACT, 2, 3}, WITHOUT_DEGREES = {EXACT, 1, 4};

    private static void mean() {
        D.sentence("MEAN is that of the GIRTHS BY all REPORTS that have one, cut; none.");
        D.due("mean() of no reports", NONE, nineDegrees().mean());
        D.due("mean() of one without degrees", NONE, nineDegrees(WITHOUT_DEGREES).mean());
        D.due("mean() of some without degrees", NONE, nineDegrees(WITHOUT_DEGREES, WITHOUT_DEGREES).mean());
        D.due("mean() of 0", 0, nineDegrees(OF_NOTHING).mean());
        D.due("mean() of 400", 400, nineDegrees(OF_400).mean());
        D.due("mean() of 400 and one without", 400, nineDegrees(OF_400, WITHOUT_DEGREES).mean());
        D.due("mean() of one without and 400", 400, nineDegrees(WITHOUT_DEGREES, OF_400).mean());
        D.due("mean() of 400 and 0", 200, nineDegrees(OF_400, OF_NOTHING).mean());
        D.due("mean() of 405 and 396, cut", 400, nineDegrees(OF_405, OF_396).mean());
        D.due("mean() of 0, 0 and 440, cut", 146, nineDegrees(OF_NOTHING, OF_NOTHING, OF_440).mean());
        GirthReports x = nineDegrees();
        Due.walk(x, 8, EXACT, 0, 4);
        x.walk(EXACT, 0, 1);
        D.due("mean() of nine", 404, x.mean());
        x.strike(8);
        D.due("mean(), the ninth struck out", 400, x.mean());
        for (int i = 0; i < 8; i++) {
            x.strike(0);
        }
        D.due("mean(), all struck out", NONE, x.mean());
    }

    private static void all() {
        D.sentence("ALL, of REPORTS that have a most: the greatest least, the least most of all; none");
        // 3600 by 12 and by 8
        GirthReports x = nineDegrees(OF_360);
        D.due("all(0) of one", 300, x.all(0));
        D.due("all(1) of one", 450, x.all(1));
        // and 3600 by 10 and by 6
        x.walk(EXACT, 0, 3);
        D.due("all(0) of two", 360, x.all(0));
        D.due("all(1) of two", 450, x.all(1));
        // and 3240 by 15 and by 11
        x.walk(SHORT, 0, 5);
        D.due("all(0) of three", 360, x.all(0));
        D.due("all(1) of three", 294, x.all(1));
        x.strike(1);
        D.due("all(0), one struck out", 300, x.all(0));
        // 12 MILES over 2 degrees: a least that does not count
        x = Due.laid("g10;t0,4;t9,0;t1,6;t9,4;r0,3,0;r1,2,50;w0,1,1;");
        x.walk(0, 1, 2);
        D.due("a least", 4320 / 4, x.report(0, 5));
        D.due("and no most", NONE, x.report(0, 6));
        x.walk(0, 0, 3);
        D.due("all(0), one without a most ahead", 3600 / 11, x.all(0));
        x.strike(0);
        x.walk(0, 1, 2);
        D.due("all(0), one without a most behind", 3600 / 11, x.all(0));
        D.due("all(1), one without a most behind", 3600 / 7, x.all(1));
    }

    private static void allNone() {
        D.sentence("1 if they CLASH (2). NONE; BAD.");
        GirthReports none = nineDegrees();
        GirthReports withoutMost = nineDegrees(WITHOUT_DEGREES, OF_NOTHING);
        GirthReports one = nineDegrees(OF_400);
        D.due("GIRTH by 2 degrees", 0, withoutMost.report(1, 4));
        for (int what = 0; what < 3; what++) {
            D.due("all(" + what + ") of no reports", NONE, none.all(what));
            D.due("all(" + what + ") without a most", NONE, withoutMost.all(what));
        }
        for (int bad : new int[] {-1, 3, 4, MIN, MAX}) {
            D.due("all(" + bad + ")", BAD, one.all(bad));
            D.due("all(" + bad + ") of no reports, BAD ahead of NONE", BAD, none.all(bad));
            D.due("all(" + bad + ") without a most, BAD ahead of NONE", BAD, withoutMost.all(bad));
        }
    }

    private static void clash() {
        D.sentence("they CLASH, if the first is above the second");
        // a MILE a degree: 200 STADIA over 18 and over 22 degrees
        GirthReports x = Due.laid("g9;t0,4;t20,2;t20,6;r0,1,0;r0,2,0;w0,1,1;w2,1,1;");
        x.walk(0, 0, 1);
        D.due("all(2) of one", 0, x.all(2));
        x.walk(0, 0, 2);
        D.due("the greatest least", 360, x.all(0));
        D.due("the least most", 360, x.all(1));
        D.due("all(2), both alike", 0, x.all(2));
        x.walk(1, 0, 2);
        D.due("the least most, a SHORT one's", 324, x.all(1));
        D.due("all(2), the first above the second", 1, x.all(2));
        x.undo();
        D.due("all(2), that undone", 0, x.all(2));
    }

    private static void nextNarrowest() {
        D.sentence("his next REPORT would have the narrowest BOUNDS (most less least)");
        GirthReports x = Due.laid("g9;t10,4;t12,4;t8,4;w0,1,1;");
        // 2, 2 and 4 degrees apart; 4 MILES, 40 STADIA by 2 and by 6
        D.due("next, more than 2 degrees alone count", 12, x.next(0, 0));
        D.due("next, how narrow", 720 - 240, x.next(0, 1));
        x = Due.laid("g9;t10,4;t13,4;w0,1,1;");
        D.due("next of 3 degrees", 1, x.next(0, 0));
        D.due("next of 3 degrees, how narrow", 1080 - 216, x.next(0, 1));
        x = Due.laid("g9;t0,4;t80,4;t40,0;t40,8;w0,1,1;");
        D.due("next, no STADIA: nothing is narrower", 23, x.next(0, 0));
        D.due("next, no STADIA: how narrow", 0, x.next(0, 1));
        x = Due.laid("t12,4;t12,4;t12,4;t12,4;t10,4;t14,4;w0,1,1;");
        D.due("next, the last two towns", 45, x.next(0, 0));
    }

    private static void nextOfSeveral() {
        D.sentence("of several the first (by the lower, then the higher), as 10 times the lower and the higher");
        GirthReports x = Due.laid("t50,4;t60,4;t50,4;t60,4;w0,1,1;");
        D.due("next of 01, 03, 12, 23", 1, x.next(0, 0));
        x = Due.laid("t50,4;t50,4;t60,4;t60,4;w0,1,1;");
        D.due("next of 02, 03, 12, 13", 2, x.next(0, 0));
        x = Due.laid("t50,4;t50,4;t60,4;t60,4;r0,2,50;r1,3,50;w0,1,1;");
        D.due("next of 03, 12, the lower ahead of the higher", 3, x.next(0, 0));
        x = Due.laid("t55,4;t55,4;t50,4;t60,4;t50,4;w0,1,1;");
        D.due("next of 23, 34", 23, x.next(0, 0));
    }

    private static void nextWrong() {
        D.sentence("NEXT: which (what = 0), how narrow (1). NONE; BAD.");
        GirthReports none = Due.laid("t10,4;t12,4;t11,4;w0,1,1;w3,1,1;");
        GirthReports some = nineDegrees();
        for (int what = 0; what < 2; what++) {
            D.due("next(0, " + what + ")", NONE, none.next(0, what));
            D.due("next(1, " + what + ")", NONE, none.next(1, what));
            for (int bad : new int[] {-1, 3, 4, MIN, MAX}) {
                D.due("next(" + bad + ", " + what + ")", BAD, some.next(bad, what));
                D.due("next(" + bad + ", " + what + "), BAD ahead of NONE", BAD, none.next(bad, what));
            }
        }
        for (int bad : new int[] {-1, 2, 3, MIN, MAX}) {
            D.due("next(0, " + bad + ")", BAD, some.next(0, bad));
            D.due("next(0, " + bad + "), BAD ahead of NONE", BAD, none.next(0, bad));
        }
    }

    private static void few(GirthReports x, int e, int many, int bits) {
        D.due("fewest(" + e + ", 0)", many, x.fewest(e, 0));
        D.due("fewest(" + e + ", 1)", bits, x.fewest(e, 1));
    }

    private static void fewestHundredths() {
        D.sentence("is off the GIRTH by no more than e hundredths of it");
        few(nineDegrees(OF_400), 0, 1, 1);
        few(nineDegrees(OF_360), 9, NONE, NONE);
        few(nineDegrees(OF_360), 10, 1, 1);
        few(nineDegrees(OF_440), 9, NONE, NONE);
        few(nineDegrees(OF_440), 10, 1, 1);
        // off by 50, twelve and a half hundredths
        few(nineDegrees(OF_450), 12, NONE, NONE);
        few(nineDegrees(OF_450), 13, 1, 1);
        few(nineDegrees(OF_396), 0, NONE, NONE);
        few(nineDegrees(OF_396), 1, 1, 1);
        few(nineDegrees(OF_NOTHING), 99, NONE, NONE);
        // 405 and 396: a MEAN of 400, cut
        few(nineDegrees(OF_405, OF_396), 0, 2, 3);
    }

    private static void fewestOfOneToFour() {
        D.sentence("of sets of 1 to 4 REPORTS whose MEAN, of these alone");
        few(nineDegrees(), 99, NONE, NONE);
        few(nineDegrees(OF_360, OF_440), 0, 2, 3);
        few(nineDegrees(OF_360, OF_450, OF_396), 0, NONE, NONE);
        // 324, 450 and 450 are 408, two hundredths off; 249 and three of 450 are 399
        few(nineDegrees(OF_324, OF_450, OF_450), 2, 3, 7);
        few(nineDegrees(OF_249, OF_450, OF_450), 1, NONE, NONE);
        few(nineDegrees(OF_249, OF_450, OF_450, OF_450), 1, 4, 15);
        // all five are 399; no four of them are as near
        GirthReports five = nineDegrees(OF_324, OF_324, OF_450, OF_450, OF_450);
        D.due("mean() of five", 399, five.mean());
        few(five, 1, NONE, NONE);
        few(nineDegrees(WITHOUT_DEGREES), 99, NONE, NONE);
        few(nineDegrees(WITHOUT_DEGREES, OF_400), 0, 1, 2);
        GirthReports x = nineDegrees();
        Due.walk(x, 8, EXACT, 0, 3);
        x.walk(EXACT, 0, 4);
        few(x, 0, 1, 256);
        x = nineDegrees();
        Due.walk(x, 5, EXACT, 0, 3);
        Due.walk(x, new int[][] {OF_450, OF_450, OF_450, OF_249});
        few(x, 1, 4, 256 + 7);
    }

    private static void fewestOfSeveral() {
        D.sentence("that one of fewest, of several the lowest as bits: how many; which; none");
        few(nineDegrees(OF_400, OF_400), 0, 1, 1);
        few(nineDegrees(OF_360, OF_440, OF_400), 0, 1, 4);
        few(nineDegrees(OF_400, OF_360, OF_440), 0, 1, 1);
        // 0 and 3, 1 and 2 would do, but no other two
        few(nineDegrees(OF_360, OF_405, OF_396, OF_440), 0, 2, 6);
        few(nineDegrees(OF_405, OF_360, OF_440, OF_396), 0, 2, 6);
        few(nineDegrees(OF_360, OF_405, OF_440, OF_396), 0, 2, 5);
    }

    private static void fewestWrong() {
        D.sentence("FEWEST for e (0 to 99)");
        GirthReports none = nineDegrees();
        GirthReports some = nineDegrees(OF_400);
        few(some, 0, 1, 1);
        few(some, 99, 1, 1);
        for (int bad : new int[] {-1, 100, 101, MIN, MAX}) {
            for (int what = 0; what < 2; what++) {
                D.due("fewest(" + bad + ", " + what + ")", BAD, some.fewest(bad, what));
                D.due("fewest(" + bad + ", " + what + "), BAD ahead of NONE", BAD, none.fewest(bad, what));
            }
        }
        for (int bad : new int[] {-1, 2, 3, MIN, MAX}) {
            D.due("fewest(5, " + bad + ")", BAD, some.fewest(5, bad));
            D.due("fewest(5, " + bad + "), BAD ahead of NONE", BAD, none.fewest(5, bad));
        }
    }

    private static void cancels(String what, GirthReports x, int r, int sets, int near) {
        D.due(what + ": cancel(" + r + ", 0)", sets, x.cancel(r, 0));
        D.due(what + ": cancel(" + r + ", 1)", near, x.cancel(r, 1));
    }

    private static int bits(int... places) {
        int bits = 0;
        for (int place : places) {
            bits |= 1 << place;
        }
        return bits;
    }

    private static void cancelOffLess() {
        D.sentence("those of the seven sets of these (bits 1 to 7) without which the GIRTH BY it would be off less than it is");
        cancels("the ROAD alone", nineDegrees(OF_440), 0, bits(1, 3, 5, 7), 0);
        cancels("the wells alone", nineDegrees(OF_360), 0, bits(2, 3, 6, 7), 0);
        cancels("the WALKER alone", nineDegrees(new int[] {SHORT, 0, 4}), 0, bits(4, 5, 6, 7), 0);
        // 396; without its ROAD 360, without its WALKER 440: only both together
        cancels("ROAD and WALKER", nineDegrees(OF_396), 0, bits(5, 7), 0);
        // 405; without its wells 360, without its WALKER 450
        cancels("wells and WALKER", nineDegrees(OF_405), 0, bits(6, 7), 0);
        // 10 MILES over 13 degrees are 276, off by 124: without its wells 400
        cancels("wells that lean far", nineDegrees(new int[] {EXACT, 0, 5}), 0, bits(2, 3, 6, 7), 0);
        // 90 over 13: 249; without 2: 360, 4: 276, both: 400
        cancels("all that is nearer", nineDegrees(OF_249), 0, bits(2, 3, 4, 5, 6, 7), 0);
    }

    private static void cancelAsItIs() {
        D.sentence("the least that it would be off by any of them, or as it is");
        cancels("nothing is off", nineDegrees(OF_400), 0, 0, 0);
        // 11 MILES of 11.1 for 10 degrees: 396, whatever it is without
        GirthReports x = Due.laid("g10;t0,4;t10,4;t10,3;t10,5;r0,1,0;r0,2,50;r0,3,0;w0,1,1;w2,1,1;");
        x.walk(0, 0, 1);
        cancels("off by what was cut", x, 0, 0, 4);
        // 16 MILES over 9 degrees: 640; without its ROAD 440, without its wells 576, without both 396
        x.walk(0, 0, 2);
        cancels("the least of all", x, 1, bits(1, 2, 3, 5, 6, 7), 4);
        // 144 STADIA over 9 degrees: 576, off by 176; 1: 99, 396; 2: 518; 3: 99, 356; 4: 640; 5: 440; 6: 576; 7: 396
        x.walk(1, 0, 2);
        cancels("as far off on the other side", x, 2, bits(1, 2, 3, 5, 7), 4);
    }

    private static void cancelOfACopier() {
        D.sentence("(a COPIER's tells as it does, but for that)");
        int[] copy = {COPIER, 1, 0};
        GirthReports x = nineDegrees(OF_440, copy);
        cancels("what is copied of an EXACT one", x, 1, bits(5, 7), 0);
        x.strike(0);
        cancels("that one struck out", x, 0, bits(5, 7), 0);
        cancels("nothing copied", nineDegrees(copy), 0, bits(5, 7), 0);
        // 396, as told by the SHORT one; without the COPIER 440
        cancels("what is copied of a SHORT one", nineDegrees(OF_396, copy), 1, bits(5, 7), 0);
        // 90 STADIA over 8 degrees: 405; without the wells 360, without the COPIER 450
        cancels("what is copied, and wells", nineDegrees(OF_405, new int[] {COPIER, 0, 3}), 1, bits(6, 7), 0);
    }

    private static void cancelWithoutDegrees() {
        D.sentence("none (it has no GIRTH; what has no degrees does not count)");
        GirthReports x = nineDegrees(WITHOUT_DEGREES, OF_NOTHING);
        cancels("without a GIRTH", x, 0, NONE, NONE);
        cancels("without degrees between both L", x, 1, 0, 400);
        // 4 MILES for 4 degrees; shadows of 4 and 4
        x = Due.laid("g9;t0,8;t4,4;w0,1,1;");
        x.walk(0, 0, 1);
        cancels("degrees between both L alone", x, 0, NONE, NONE);
    }

    private static void cancelWrong() {
        D.sentence("CANCEL: sets (what = 0; bits), how near (1). NONE (no GIRTH BY it); BAD.");
        GirthReports x = nineDegrees(WITHOUT_DEGREES, OF_400);
        D.due("cancel(0, 0) of no reports", BAD, nineDegrees().cancel(0, 0));
        for (int bad : new int[] {-1, 2, 3, 9, MIN, MAX}) {
            D.due("cancel(" + bad + ", 0)", BAD, x.cancel(bad, 0));
            D.due("cancel(" + bad + ", 1)", BAD, x.cancel(bad, 1));
        }
        for (int bad : new int[] {-1, 2, 3, MIN, MAX}) {
            D.due("cancel(1, " + bad + ")", BAD, x.cancel(1, bad));
            D.due("cancel(0, " + bad + "), BAD ahead of NONE", BAD, x.cancel(0, bad));
        }
    }

    /** 680 MILES round: 34 for 18 degrees. */
    private static GirthReports captain(int... walkers) {
        GirthReports x = Due.laid("g17;t0,4;t18,4;t0,8;r0,1,0;w0,1,1;w2,1,1;");
        for (int w : walkers) {
            x.walk(w, 0, 1);
        }
        return x;
    }

    private static void sailHowFar() {
        D.sentence("to a land l (1 to 360) degrees off, with casks for d (1 to 99) days of 100 MILES each");
        GirthReports x = captain(0);
        D.due("sail(1, 1)", 2, x.sail(1, 1));
        D.due("sail(360, 99)", 2, x.sail(360, 99));
        D.due("sail(360, 7)", 2, x.sail(360, 7));
        D.due("sail(360, 6)", 0, x.sail(360, 6));
        for (int bad : new int[] {0, 361, -1, MIN, MAX}) {
            D.due("sail(" + bad + ", 5)", BAD, x.sail(bad, 5));
            D.due("sail(" + bad + ", 100)", BAD, x.sail(bad, 100));
        }
        for (int bad : new int[] {0, 100, -1, MIN, MAX}) {
            D.due("sail(5, " + bad + ")", BAD, x.sail(5, bad));
        }
        x = Due.laid("g99;t0,4;t80,4;r0,1,50;w0,1,1;w3,1,9;");
        x.walk(0, 0, 1);
        x.walk(1, 0, 1);
        x.strike(0);
        D.due("MEAN, as great as can be", 53460, x.mean());
        D.due("sail(360, 99) on that", 0, x.sail(360, 99));
        // 66 degrees are 9801 MILES, 67 are 9949.5
        D.due("sail(66, 99) on that", 2, x.sail(66, 99));
        D.due("sail(67, 99) on that", 0, x.sail(67, 99));
    }

    private static void sailWhoDares() {
        D.sentence("he dares, if l degrees of MEAN (times l, by 360, cut) are no more MILES than that");
        GirthReports x = captain(1);
        D.due("a SHORT MEAN", 612, x.mean());
        // 58 degrees are 98.6, 59 are 100.3, 60 are 102
        D.due("sail(58, 1)", 1, x.sail(58, 1));
        D.due("sail(59, 1), cut", 1, x.sail(59, 1));
        D.due("sail(60, 1)", 0, x.sail(60, 1));
        // a MILE a degree
        x = Due.laid("g9;t0,4;t50,4;r0,1,0;w0,1,1;");
        x.walk(0, 0, 1);
        D.due("sail(100, 1), just as many", 2, x.sail(100, 1));
        D.due("sail(101, 1), one more", 0, x.sail(101, 1));
        // 3600 MILES in as many days as they take
        x = Due.laid("g90;t0,4;t50,4;r0,1,0;w0,1,1;");
        x.walk(0, 0, 1);
        D.due("sail(360, 36), round the ball", 2, x.sail(360, 36));
        D.due("sail(360, 35), a day too few", 0, x.sail(360, 35));
        // a MEAN of 0: he dares all
        x = captain();
        x.walk(0, 0, 2);
        D.due("a MEAN of nothing", 0, x.mean());
        D.due("sail(360, 1) on nothing", 1, x.sail(360, 1));
        D.due("sail(1, 1) on nothing", 2, x.sail(1, 1));
    }

    private static void sailWhoComesThere() {
        D.sentence("he comes there, if those of the GIRTH are: 2, 1 (he dares, and does not come there), 0 (he does not dare)");
        GirthReports x = captain(1);
        // of 680, 52 degrees are 98.2, 53 are 100.1, 54 are 102
        D.due("sail(52, 1)", 2, x.sail(52, 1));
        D.due("sail(53, 1), cut", 2, x.sail(53, 1));
        D.due("sail(54, 1)", 1, x.sail(54, 1));
        x = Due.laid("g9;t0,4;t50,4;r0,1,0;w2,1,1;");
        x.walk(0, 0, 1);
        D.due("sail(100, 1), just as many", 2, x.sail(100, 1));
        D.due("sail(101, 1), one more", 1, x.sail(101, 1));
        x = Due.laid("g90;t0,4;t50,4;r0,1,0;w2,1,1;");
        x.walk(0, 0, 1);
        D.due("sail(360, 36), round the ball", 2, x.sail(360, 36));
        D.due("sail(360, 35), a day too few", 1, x.sail(360, 35));
        // 54 MILES over 50 degrees: 93 of such degrees are 100.2 MILES, 94 are 101.3
        x = Due.laid("g9;t0,4;t54,0;r0,1,0;w0,1,1;");
        x.walk(0, 0, 1);
        D.due("a MEAN above the GIRTH", 388, x.mean());
        D.due("sail(93, 1)", 2, x.sail(93, 1));
        D.due("sail(94, 1): he would come there, and does not dare", 0, x.sail(94, 1));
        D.due("sail(101, 1): neither", 0, x.sail(101, 1));
    }

    private static void sailWithoutMean() {
        D.sentence("none (no MEAN)");
        GirthReports none = captain();
        GirthReports withoutDegrees = nineDegrees(WITHOUT_DEGREES);
        D.due("sail(100, 5) of no reports", NONE, none.sail(100, 5));
        D.due("sail(100, 5) without degrees", NONE, withoutDegrees.sail(100, 5));
        int[][] bad = {{0, 5}, {361, 5}, {100, 0}, {100, 100}};
        for (int[] b : bad) {
            D.due("sail(" + b[0] + ", " + b[1] + "), BAD ahead of NONE", BAD, none.sail(b[0], b[1]));
        }
    }
}
