/** Promises 6 to 9, edge by edge: town, between, walker, report. */
public final class BallEdgesTest {
    private static final int BAD = -1, NONE = -4;
    private static final int MIN = Integer.MIN_VALUE, MAX = Integer.MAX_VALUE;
    private static final Due D = new Due();

    public static void main(String[] args) {
        towns();
        shadowsOfNothing();
        between();
        straight();
        byRoad();
        degreesBetweenShadows();
        walkers();
        reports();
        girthByNoDegrees();
        leastByTwoMore();
        mostByTwoFewer();
        D.end();
    }

    private static void towns() {
        D.sentence("Of a TOWN: L (what = 0), SHADOW (1). BAD.");
        GirthReports two = Due.laid("t1,4;t2,4;w0,1,1;");
        GirthReports six = Due.laid("t1,4;t2,4;t3,4;t4,4;t5,4;t6,4;w0,1,1;");
        D.due("town(0, 0)", 1, two.town(0, 0));
        D.due("town(1, 1) of two", 2, two.town(1, 1));
        D.due("town(2, 0) of two", BAD, two.town(2, 0));
        D.due("town(2, 1) of two", BAD, two.town(2, 1));
        D.due("town(5, 0) of six", 6, six.town(5, 0));
        for (int bad : new int[] {-1, 6, 7, 99, MIN, MAX}) {
            D.due("town(" + bad + ", 0)", BAD, six.town(bad, 0));
            D.due("town(" + bad + ", 1)", BAD, six.town(bad, 1));
        }
        for (int bad : new int[] {-1, 2, 3, MIN, MAX}) {
            D.due("town(0, " + bad + ")", BAD, six.town(0, bad));
        }
        GirthReports x = Due.laid("t1,4;t2,4;t3,4;w0,1,1;");
        x.wipe();
        Due.write(x, "t7,4;t8,4;w0,1,1;");
        x.lay();
        D.due("town(2, 0), of the ball before", BAD, x.town(2, 0));
    }

    private static void shadowsOfNothing() {
        D.sentence("The SHADOW of a TOWN is L and what its well LEANS (0 at least), in degrees.");
        GirthReports x = Due.laid("t0,0;t3,0;t4,0;t5,0;t0,3;t0,5;w0,1,1;");
        int[] due = {0, 0, 0, 1, 0, 1};
        for (int t = 0; t < 6; t++) {
            D.due("town(" + t + ", 1)", due[t], x.town(t, 1));
        }
        D.due("SHADOW of 80 and 4", 84, Due.laid("t80,8;t0,0;w0,1,1;").town(0, 1));
    }

    private static void between() {
        D.sentence("degrees between SHADOWS (2). BAD (alike, too).");
        GirthReports x = Due.laid("t1,4;t2,4;t3,4;w0,1,1;");
        int[][] bad = {
            {0, 0}, {1, 1}, {2, 2}, {3, 3}, {-1, -1}, {0, 3}, {3, 0}, {-1, 0}, {0, -1}, {2, 6}, {6, 2}, {MIN, 0}, {0, MAX}};
        for (int[] b : bad) {
            for (int what = 0; what < 3; what++) {
                D.due("between(" + b[0] + ", " + b[1] + ", " + what + ")", BAD, x.between(b[0], b[1], what));
            }
        }
        for (int what : new int[] {-1, 3, 4, MIN, MAX}) {
            D.due("between(0, 1, " + what + ")", BAD, x.between(0, 1, what));
            D.due("between(2, 1, " + what + ")", BAD, x.between(2, 1, what));
        }
    }

    private static void straight() {
        D.sentence("as many MILES as the GIRTH times the degrees between both L, by 360, cut");
        // 40 MILES round: a MILE takes 9 degrees
        GirthReports x = Due.laid("g1;t0,4;t8,4;t9,4;t17,4;t18,4;t80,4;w0,1,1;");
        int[] due = {0, 0, 1, 1, 2, 8};
        for (int t = 1; t < 6; t++) {
            D.due("between(0, " + t + ", 0)", due[t], x.between(0, t, 0));
            D.due("between(" + t + ", 0, 0)", due[t], x.between(t, 0, 0));
        }
        x = Due.laid("g99;t0,0;t80,8;t0,8;w0,1,1;");
        D.due("STRAIGHT, as far as can be", 880, x.between(0, 1, 0));
        D.due("STRAIGHT, nothing between both L", 0, x.between(0, 2, 0));
        D.due("STRAIGHT does not heed the wells", 880, x.between(2, 1, 0));
    }

    private static void byRoad() {
        D.sentence("by ROAD that times (100 and R), by 100, cut");
        // a MILE a degree
        GirthReports x = Due.laid("g9;t0,4;t9,4;t10,4;t50,4;t51,4;t0,8;r0,1,11;r0,2,10;r0,3,1;r0,4,2;w0,1,1;");
        // 9.99, 11, 50.5, 52.02
        int[] due = {0, 9, 11, 50, 52};
        for (int t = 1; t < 5; t++) {
            D.due("between(0, " + t + ", 1)", due[t], x.between(0, t, 1));
            D.due("between(" + t + ", 0, 1)", due[t], x.between(t, 0, 1));
        }
        D.due("by ROAD, nothing between both L", 0, x.between(0, 5, 1));
        x = Due.laid("g99;t0,4;t80,4;r0,1,50;w0,1,1;");
        D.due("by ROAD, as far as can be", 1320, x.between(0, 1, 1));
        // 1.9 MILES straight are 1, and of that, not of 1.9, comes the road
        x = Due.laid("g1;t0,4;t17,4;r0,1,50;w0,1,1;");
        D.due("by ROAD of what is cut already", 1, x.between(0, 1, 1));
    }

    private static void degreesBetweenShadows() {
        D.sentence("degrees between SHADOWS (2)");
        GirthReports x = Due.laid("t0,0;t2,0;t10,8;t14,4;t80,8;t14,3;w0,1,1;");
        // shadows of 0, 0, 14, 14, 84, 13
        D.due("none, both 0 at least", 0, x.between(0, 1, 2));
        D.due("none, L unlike", 0, x.between(2, 3, 2));
        D.due("one, L alike", 1, x.between(3, 5, 2));
        D.due("the most", 84, x.between(0, 4, 2));
        D.due("the most, back", 84, x.between(4, 0, 2));
    }

    private static void walkers() {
        D.sentence("Of a WALKER: KIND (what = 0), P (1), U (2). BAD.");
        GirthReports one = Due.laid("t1,4;t2,4;w3,40,9;");
        GirthReports four = Due.laid("t1,4;t2,4;w0,1,1;w1,2,2;w2,3,3;w3,40,9;");
        int[] due = {3, 40, 9};
        for (int what = 0; what < 3; what++) {
            D.due("walker(0, " + what + ") of one", due[what], one.walker(0, what));
            D.due("walker(3, " + what + ") of four", due[what], four.walker(3, what));
            D.due("walker(1, " + what + ") of one", BAD, one.walker(1, what));
            for (int bad : new int[] {-1, 4, 5, MIN, MAX}) {
                D.due("walker(" + bad + ", " + what + ")", BAD, four.walker(bad, what));
            }
        }
        for (int bad : new int[] {-1, 3, 4, MIN, MAX}) {
            D.due("walker(0, " + bad + ")", BAD, four.walker(0, bad));
        }
    }

    private static void reports() {
        D.sentence("Of a REPORT: WALKER (what = 0), from (1), to (2), STADIA (3)");
        GirthReports x = new GirthReports();
        for (int what = -1; what < 8; what++) {
            D.due("report(0, " + what + ") of none", BAD, x.report(0, what));
        }
        for (int i = 0; i < 9; i++) {
            x.walk(i % 4, i % 3, 3);
        }
        for (int bad : new int[] {-1, 9, 10, MIN, MAX}) {
            for (int what = 0; what < 7; what++) {
                D.due("report(" + bad + ", " + what + ") of nine", BAD, x.report(bad, what));
            }
        }
        for (int bad : new int[] {-1, 7, 8, MIN, MAX}) {
            D.due("report(8, " + bad + ") of nine", BAD, x.report(8, bad));
        }
        int[] last = {0, 2, 3, 126};
        for (int what = 0; what < 4; what++) {
            D.due("report(8, " + what + ") of nine", last[what], x.report(8, what));
        }
        x.strike(0);
        D.due("report(8, 0), one struck out", BAD, x.report(8, 0));
        D.due("report(7, 1), one struck out", 2, x.report(7, 1));
    }

    /**
     * Reports between the first and each other town: 11, 0, 0, 0 and 57 STADIA of 8, no and 40 MILES,
     * over 0, 1, 2, 3 and 20 degrees.
     */
    private static GirthReports nearShadows() {
        GirthReports x = Due.laid("g18;t10,4;t14,0;t10,5;t10,6;t10,7;t30,4;r0,5,0;w0,1,7;");
        for (int t = 1; t < 6; t++) {
            x.walk(0, 0, t);
        }
        return x;
    }

    private static void girthByNoDegrees() {
        D.sentence("by the degrees between both SHADOWS, cut; none (there are no degrees)");
        // 10 degrees of 2 MILES and a tenth more are 22: 31 STADIA of seven tenths
        GirthReports x = Due.laid("g18;t10,4;t14,0;t20,0;t20,4;t20,1;w0,1,7;");
        // shadows of 10, 10, 16, 20, 17
        Due.walk(x, new int[][] {{0, 0, 1}, {0, 0, 2}, {0, 0, 3}, {0, 2, 4}});
        D.due("GIRTH by no degrees", NONE, x.report(0, 4));
        D.due("STADIA of it", 11, x.report(0, 3));
        D.due("GIRTH by 6 degrees", 31 * 7 * 36 / 6, x.report(1, 4));
        // 7812 by 10 is 781.2
        D.due("GIRTH by 10 degrees, cut", 781, x.report(2, 4));
        D.due("GIRTH of no STADIA by one degree", 0, x.report(3, 4));
        x = Due.laid("g18;t10,4;t12,3;w0,1,7;");
        x.walk(0, 0, 1);
        // 4 MILES: 5 STADIA
        D.due("GIRTH by one degree", 5 * 7 * 36, x.report(0, 4));
        x = Due.laid("g99;t0,4;t80,4;t4,0;r0,1,50;w0,1,1;w3,1,9;");
        Due.walk(x, new int[][] {{0, 0, 1}, {1, 0, 1}, {1, 0, 2}});
        D.due("GIRTH, as great as STADIA can make it", 13200 * 9 * 36 / 80, x.report(1, 4));
        D.due("GIRTH, both shadows of nothing", NONE, x.report(2, 4));
    }

    private static void leastByTwoMore() {
        D.sentence("the least, likewise by 2 degrees more");
        GirthReports x = nearShadows();
        int[] due = {11 * 7 * 36 / 2, 0, 0, 0, 57 * 7 * 36 / 22};
        for (int r = 0; r < 5; r++) {
            D.due("report(" + r + ", 5)", due[r], x.report(r, 5));
        }
        D.due("least, cut", 652, x.report(4, 5));
    }

    private static void mostByTwoFewer() {
        D.sentence("the most, by 2 fewer; none (there are no more than 2)");
        GirthReports x = nearShadows();
        int[] due = {NONE, NONE, NONE, 0, 57 * 7 * 36 / 18};
        for (int r = 0; r < 5; r++) {
            D.due("report(" + r + ", 6)", due[r], x.report(r, 6));
        }
        x = Due.laid("g18;t10,4;t11,6;t12,4;t13,3;w0,1,7;");
        // shadows of 10, 13, 12, 12; 2, 4 and 6 MILES: 2, 5 and 8 STADIA
        Due.walk(x, new int[][] {{0, 1, 0}, {0, 2, 0}, {0, 0, 3}});
        D.due("most by 3 degrees", 2 * 7 * 36, x.report(0, 6));
        D.due("most by 2 degrees", NONE, x.report(1, 6));
        D.due("GIRTH by 2 degrees", 5 * 7 * 36 / 2, x.report(1, 4));
        D.due("least by 2 degrees", 5 * 7 * 36 / 4, x.report(1, 5));
        D.due("most by 2 degrees, the other way", NONE, x.report(2, 6));
    }
}
