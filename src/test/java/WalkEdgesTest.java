/** Promises 10 to 12, edge by edge: walk, strike, undo. */
public final class WalkEdgesTest {
    private static final int BAD = -1, NO = -2, FULL = -3;
    private static final int MIN = Integer.MIN_VALUE, MAX = Integer.MAX_VALUE;
    private static final Due D = new Due();

    public static void main(String[] args) {
        wrongWalks();
        nineReports();
        exact();
        rounding();
        shortOnes();
        copierOfNone();
        copierOfAnother();
        copierOfTheLatest();
        copierEitherWay();
        days();
        oneLower();
        daysStay();
        wrongStrikings();
        nothingToUndo();
        theLastEight();
        walksUndone();
        strikingsUndone();
        refusedIsNotUndone();
        theLastCall();
        D.end();
    }

    private static void wrongWalks() {
        D.sentence("A WALK: STADIA. BAD (alike, too); FULL.");
        GirthReports x = Due.laid("t10,4;t20,4;t30,4;w0,1,1;w0,1,1;");
        int[][] bad = {
            {-1, 0, 1}, {2, 0, 1}, {MIN, 0, 1}, {MAX, 0, 1}, {0, 0, 0}, {1, 2, 2}, {0, -1, 0}, {0, 0, -1}, {0, 3, 0},
            {0, 0, 3}, {0, 3, 3}, {0, MIN, 0}, {0, 0, MAX}, {0, -1, -1}};
        for (int[] b : bad) {
            D.due("walk(" + b[0] + ", " + b[1] + ", " + b[2] + ")", BAD, x.walk(b[0], b[1], b[2]));
        }
        D.due("reports", 0, x.count(3));
        D.due("walk(1, 2, 0)", 880, x.walk(1, 2, 0));
        D.due("report(0, 0)", 1, x.report(0, 0));
        D.due("report(0, 1)", 2, x.report(0, 1));
        D.due("report(0, 2)", 0, x.report(0, 2));
    }

    private static void nineReports() {
        D.sentence("there is one REPORT more (9 at most)");
        GirthReports x = new GirthReports();
        for (int many = 1; many <= 9; many++) {
            D.due("walk, the " + many + "th", 32, x.walk(0, 0, 1));
            D.due("reports", many, x.count(3));
        }
        D.due("walk, the tenth", FULL, x.walk(0, 0, 1));
        D.due("walk, the tenth of another", FULL, x.walk(3, 2, 3));
        D.due("walk, BAD ahead of FULL, by the WALKER", BAD, x.walk(4, 0, 1));
        D.due("walk, BAD ahead of FULL, alike", BAD, x.walk(0, 1, 1));
        D.due("walk, BAD ahead of FULL, by the TOWN", BAD, x.walk(0, 0, 4));
        D.due("reports, full", 9, x.count(3));
        D.due("days, full", 18, x.count(4));
        x.strike(8);
        D.due("walk, one struck out", 40, x.walk(1, 0, 1));
        D.due("walk, full again", FULL, x.walk(1, 0, 1));
        x.undo();
        D.due("walk, one undone", 28, x.walk(2, 0, 1));
        D.due("report(8, 3)", 28, x.report(8, 3));
    }

    /** A MILE a degree: towns 1, 3, 10, 20 and no MILES from the first. */
    private static GirthReports miles(String walkers) {
        return Due.laid("g9;t0,4;t1,4;t3,4;t10,4;t20,4;t0,8;r0,3,0;r0,4,0;" + walkers);
    }

    private static void exact() {
        D.sentence("an EXACT one tells the MILES by ROAD times 10, by U, cut");
        GirthReports x = miles("w0,1,1;w0,1,3;w0,1,7;w0,1,9;");
        D.due("10 by 1", 10, x.walk(0, 0, 1));
        D.due("10 by 3", 3, x.walk(1, 0, 1));
        D.due("10 by 7", 1, x.walk(2, 0, 1));
        D.due("10 by 9", 1, x.walk(3, 0, 1));
        D.due("30 by 7", 4, x.walk(2, 0, 2));
        D.due("100 by 9", 11, x.walk(3, 0, 3));
        D.due("nothing by 1", 0, x.walk(0, 0, 5));
        x = Due.laid("g99;t0,4;t80,4;r0,1,50;w0,1,1;");
        D.due("as much as can be", 13200, x.walk(0, 0, 1));
    }

    private static void rounding() {
        D.sentence("a ROUNDING one that and 5, by 10, cut, times 10");
        GirthReports x = miles("w1,1,2;w1,1,7;w1,1,1;");
        D.due("of 5", 10, x.walk(0, 0, 1));
        D.due("of 15", 20, x.walk(0, 0, 2));
        D.due("of 1", 0, x.walk(1, 0, 1));
        D.due("of 4", 0, x.walk(1, 0, 2));
        D.due("of 14", 10, x.walk(1, 0, 3));
        D.due("of 10", 10, x.walk(2, 0, 1));
        D.due("of nothing", 0, x.walk(2, 0, 5));
    }

    private static void shortOnes() {
        D.sentence("a SHORT one nine tenths of what an EXACT one tells, cut");
        GirthReports x = miles("w2,1,1;w2,1,7;w2,1,9;");
        D.due("of 10", 9, x.walk(0, 0, 1));
        D.due("of 1", 0, x.walk(1, 0, 1));
        D.due("of 4", 3, x.walk(1, 0, 2));
        D.due("of 11", 9, x.walk(2, 0, 3));
        // nine tenths of 100 by 7, not cut ahead, would be 12.86, too; of 200 by 9 they would be 20, of 22 they are 19
        D.due("of 22, cut already", 19, x.walk(2, 0, 4));
        D.due("of nothing", 0, x.walk(0, 0, 5));
    }

    private static void copierOfNone() {
        D.sentence("if there is one, else as an EXACT one");
        GirthReports x = miles("w3,1,3;w0,1,1;w3,1,7;");
        D.due("COPIER, no reports", 33, x.walk(0, 0, 3));
        x.walk(1, 0, 4);
        x.walk(1, 3, 1);
        D.due("COPIER, reports between others", 33, x.walk(0, 0, 3));
        x.walk(1, 0, 3);
        D.due("COPIER, one to copy", 100, x.walk(0, 3, 0));
        x.strike(4);
        D.due("COPIER, that one struck out", 33, x.walk(0, 3, 0));
        x.undo();
        x.undo();
        D.due("COPIER, the striking undone", 100, x.walk(0, 3, 0));
    }

    private static void copierOfAnother() {
        D.sentence("a COPIER what the latest REPORT of another WALKER between these two (either way) tells");
        GirthReports x = miles("w3,1,3;w0,1,1;w3,1,7;w3,1,9;");
        x.walk(1, 0, 3);
        x.walk(0, 0, 3);
        D.due("he copied", 100, x.report(1, 3));
        x.strike(0);
        D.due("his own does not count, even a copied one", 33, x.walk(0, 0, 3));
        D.due("another COPIER's does", 33, x.walk(2, 0, 3));
        D.due("and what that one told, too", 33, x.walk(3, 3, 0));
    }

    private static void copierOfTheLatest() {
        D.sentence("the latest REPORT of another WALKER");
        GirthReports x = miles("w3,1,3;w0,1,1;w2,1,1;");
        x.walk(1, 0, 3);
        x.walk(2, 0, 3);
        D.due("the latest of two", 90, x.walk(0, 0, 3));
        x.walk(1, 0, 3);
        D.due("the latest of three", 100, x.walk(0, 0, 3));
        D.due("the latest of another, his own being later", 100, x.walk(0, 0, 3));
        x.walk(2, 0, 4);
        D.due("the latest between these two", 100, x.walk(0, 0, 3));
        x.strike(3);
        D.due("the latest of those left", 90, x.walk(0, 0, 3));
    }

    private static void copierEitherWay() {
        D.sentence("between these two (either way)");
        GirthReports x = miles("w3,1,3;w0,1,1;");
        x.walk(1, 3, 0);
        D.due("the other way", 100, x.walk(0, 0, 3));
        D.due("the same way", 100, x.walk(0, 3, 0));
        D.due("from one of them alone", 66, x.walk(0, 0, 4));
        D.due("to one of them alone", 36, x.walk(0, 4, 3));
    }

    private static void days() {
        D.sentence("as many days as the MILES by ROAD, by P, cut, and 1");
        int[][] due = {{1, 2, 4, 11, 21, 1}, {3, 1, 2, 4, 7, 1}, {10, 1, 1, 2, 3, 1}, {11, 1, 1, 1, 2, 1}, {40, 1, 1, 1, 1, 1}};
        for (int[] d : due) {
            GirthReports x = miles("w3," + d[0] + ",5;");
            for (int t = 1; t < 6; t++) {
                int before = x.count(4);
                x.walk(0, t, 0);
                D.due("days by P of " + d[0] + " to town " + t, d[t], x.count(4) - before);
            }
        }
        GirthReports x = Due.laid("g99;t0,4;t80,4;r0,1,50;w0,1,1;");
        Due.walk(x, 9, 0, 0, 1);
        D.due("days, as many as nine walks can take", 9 * 1321, x.count(4));
    }

    /** Reports of WALKERS 0, 1, 2 and 3, each between other towns. */
    private static GirthReports fourReports() {
        GirthReports x = new GirthReports();
        Due.walk(x, new int[][] {{0, 0, 1}, {1, 2, 3}, {2, 3, 0}, {3, 1, 2}});
        return x;
    }

    private static void left(GirthReports x, String what, int... walkers) {
        int[][] told = {{0, 1, 32}, {2, 3, 140}, {3, 0, 157}, {1, 2, 64}};
        D.due(what + ": reports", walkers.length, x.count(3));
        for (int r = 0; r < walkers.length; r++) {
            int w = walkers[r];
            D.due(what + ": report(" + r + ", 0)", w, x.report(r, 0));
            for (int i = 0; i < 3; i++) {
                D.due(what + ": report(" + r + ", " + (i + 1) + ")", told[w][i], x.report(r, i + 1));
            }
        }
        D.due(what + ": no more", BAD, x.report(walkers.length, 0));
    }

    private static void oneLower() {
        D.sentence("A REPORT can be STRUCK OUT (those behind it are one lower");
        int[][] due = {{1, 2, 3}, {0, 2, 3}, {0, 1, 3}, {0, 1, 2}};
        for (int r = 0; r < 4; r++) {
            GirthReports x = fourReports();
            D.due("strike(" + r + ")", 3, x.strike(r));
            left(x, "strike(" + r + ")", due[r]);
        }
        GirthReports x = fourReports();
        for (int many = 3; many >= 0; many--) {
            D.due("strike(0)", many, x.strike(0));
        }
        left(x, "all struck out");
        x = new GirthReports();
        Due.walk(x, 8, 0, 0, 1);
        x.walk(2, 3, 0);
        D.due("strike(0) of nine", 8, x.strike(0));
        D.due("the ninth is the eighth", 157, x.report(7, 3));
        D.due("there is no ninth", BAD, x.report(8, 3));
    }

    private static void daysStay() {
        D.sentence("the days stay");
        GirthReports x = fourReports();
        // 2, 5, 11 and 2
        D.due("days", 20, x.count(4));
        x.strike(2);
        D.due("days, one struck out", 20, x.count(4));
        x.undo();
        D.due("days, that undone", 20, x.count(4));
        for (int i = 0; i < 4; i++) {
            x.strike(0);
        }
        D.due("days, all struck out", 20, x.count(4));
        x.walk(0, 0, 1);
        D.due("days, a walk behind that", 22, x.count(4));
    }

    private static void wrongStrikings() {
        D.sentence("A REPORT is STRUCK OUT: how many are left. BAD.");
        D.due("strike(0) of none", BAD, new GirthReports().strike(0));
        D.due("strike(-1) of none", BAD, new GirthReports().strike(-1));
        for (int bad : new int[] {-1, 4, 5, 9, MIN, MAX}) {
            GirthReports x = fourReports();
            D.due("strike(" + bad + ") of four", BAD, x.strike(bad));
            left(x, "strike(" + bad + ")", 0, 1, 2, 3);
        }
        GirthReports x = fourReports();
        x.strike(0);
        D.due("strike(3) of three", BAD, x.strike(3));
    }

    private static void nothingToUndo() {
        D.sentence("UNDONE: how many more can be. NO.");
        GirthReports x = new GirthReports();
        D.due("undo() of nothing", NO, x.undo());
        x.walk(0, 0, 1);
        D.due("undo() of one", 0, x.undo());
        D.due("undo() of no more", NO, x.undo());
        x.walk(0, 0, 1);
        x.strike(0);
        D.due("can be undone", 2, x.count(6));
        D.due("undo() of two", 1, x.undo());
        D.due("can be undone, one less", 1, x.count(6));
        x.strike(0);
        D.due("can be undone, one more", 2, x.count(6));
        x.undo();
        x.undo();
        D.due("undo() of no more, again", NO, x.undo());
    }

    private static void theLastEight() {
        D.sentence("UNDONE is the latest WALK, STRIKING (the last 8 can be).");
        for (int many = 7; many <= 9; many++) {
            GirthReports x = new GirthReports();
            Due.walk(x, many, 0, 0, 1);
            int can = Math.min(many, 8);
            D.due(many + " walks: can be undone", can, x.count(6));
            for (int left = can - 1; left >= 0; left--) {
                D.due(many + " walks: undo()", left, x.undo());
            }
            D.due(many + " walks: undo() of no more", NO, x.undo());
            D.due(many + " walks: reports", many - can, x.count(3));
            D.due(many + " walks: days", 2 * (many - can), x.count(4));
        }
        GirthReports x = fourReports();
        for (int i = 0; i < 20; i++) {
            x.walk(0, 0, 1);
            x.strike(4);
            D.due("can be undone", Math.min(8, 6 + 2 * i), x.count(6));
        }
        for (int left = 7; left >= 0; left--) {
            D.due("undo() of the last eight", left, x.undo());
        }
        D.due("undo() of the ninth", NO, x.undo());
        left(x, "the last eight of 44 undone", 0, 1, 2, 3);
        D.due("days of 4 and 16 walks", 20 + 32, x.count(4));
        x = fourReports();
        x.strike(1);
        x.strike(1);
        Due.walk(x, 6, 0, 0, 1);
        for (int left = 7; left >= 0; left--) {
            D.due("undo() as far as two unlike strikings", left, x.undo());
        }
        left(x, "two unlike strikings undone, the last of eight", 0, 1, 2, 3);
        x = new GirthReports();
        Due.walk(x, new int[][] {
            {0, 2, 3}, {1, 2, 3}, {2, 2, 3}, {3, 2, 3}, {1, 0, 3}, {2, 0, 3}, {2, 1, 3}, {3, 0, 1}, {0, 0, 1}});
        // 6, 5, 8, 4, 7, 11, 9, 1 and 2 days
        int[] days = {6, 11, 19, 23, 30, 41, 50, 51, 53};
        for (int left = 8; left > 0; left--) {
            D.due("days of " + (left + 1) + " unlike walks", days[left], x.count(4));
            x.undo();
        }
        D.due("days of the walk that can't be undone", days[0], x.count(4));
    }

    private static void walksUndone() {
        D.sentence("UNDONE is the latest WALK");
        GirthReports x = fourReports();
        x.undo();
        left(x, "one walk undone", 0, 1, 2);
        D.due("days of three", 18, x.count(4));
        x.undo();
        x.undo();
        left(x, "three walks undone", 0);
        D.due("days of one", 2, x.count(4));
        x = new GirthReports();
        Due.walk(x, 9, 0, 0, 1);
        x.undo();
        D.due("the ninth undone", 8, x.count(3));
        D.due("there is room", 157, x.walk(2, 3, 0));
        D.due("the new ninth", 157, x.report(8, 3));
    }

    private static void strikingsUndone() {
        D.sentence("UNDONE is the latest WALK, STRIKING");
        for (int r = 0; r < 4; r++) {
            GirthReports x = fourReports();
            x.strike(r);
            D.due("undo() of strike(" + r + ")", 4, x.undo());
            left(x, "strike(" + r + ") undone", 0, 1, 2, 3);
        }
        GirthReports x = fourReports();
        x.strike(1);
        x.strike(2);
        x.strike(0);
        x.strike(0);
        for (int left = 7; left >= 4; left--) {
            D.due("undo() of strikings", left, x.undo());
        }
        left(x, "all strikings undone", 0, 1, 2, 3);
        x = new GirthReports();
        x.walk(2, 3, 0);
        Due.walk(x, 8, 0, 0, 1);
        x.strike(0);
        x.walk(1, 2, 3);
        x.undo();
        x.undo();
        D.due("nine again", 9, x.count(3));
        D.due("the first of nine again", 157, x.report(0, 3));
        D.due("the last of nine again", 32, x.report(8, 3));
    }

    private static void refusedIsNotUndone() {
        D.sentence("UNDONE: how many more can be.");
        GirthReports x = fourReports();
        x.walk(0, 0, 0);
        x.walk(4, 0, 1);
        x.strike(4);
        x.strike(-1);
        D.due("can be undone", 4, x.count(6));
        D.due("undo() behind what was refused", 3, x.undo());
        left(x, "undone behind what was refused", 0, 1, 2);
    }

    private static void theLastCall() {
        D.sentence("An object is used for at most 512 calls after it has been made");
        GirthReports x = new GirthReports();
        for (int i = 0; i < 255; i++) {
            x.walk(2, 0, 3);
            x.strike(0);
        }
        D.due("the 511th call: days of 255 walks", 255 * 11, x.count(4));
        D.due("the 512th call: undo()", 7, x.undo());
    }
}
