/** Promises 10 to 12: walk, strike, undo. */
public final class WalksTest {
    private static final int BAD = -1, NO = -2, FULL = -3;
    private static final Due D = new Due();

    public static void main(String[] args) {
        kindsOfWalkers();
        copiers();
        days();
        wrongWalks();
        full();
        strike();
        undo();
        undoTheLastEight();
        undoTheLastEightOfAllKinds();
        undoAStrikingThatIsTheEighth();
        D.end();
    }

    private static void kindsOfWalkers() {
        // 3960 MILES round: 11 a degree, 121 to the second town by road, 33 to the third
        GirthReports x = Due.laid("g99;t10,4;t20,4;t13,4;r0,2,0;w0,1,9;w1,1,9;w2,1,9;w1,1,1;");
        D.due("EXACT", 134, x.walk(0, 0, 1));
        D.due("ROUNDING, down", 130, x.walk(1, 0, 1));
        D.due("SHORT", 120, x.walk(2, 0, 1));
        D.due("ROUNDING of tens", 1210, x.walk(3, 1, 0));
        D.due("EXACT, near", 36, x.walk(0, 2, 0));
        D.due("ROUNDING, up", 40, x.walk(1, 2, 0));
        D.due("SHORT, cut", 32, x.walk(2, 0, 2));
        x = Due.laid("g36;t1,4;t6,4;t2,4;r0,1,25;r0,2,0;w1,1,9;w1,1,8;w1,1,2;");
        // 25 and 4 MILES
        D.due("ROUNDING of 27", 30, x.walk(0, 0, 1));
        D.due("ROUNDING of 31", 30, x.walk(1, 0, 1));
        D.due("ROUNDING of 125", 130, x.walk(2, 0, 1));
        D.due("ROUNDING of 5", 10, x.walk(1, 0, 2));
        D.due("ROUNDING of 4", 0, x.walk(0, 0, 2));
    }

    private static void copiers() {
        GirthReports x = Due.laid("t10,4;t20,4;t30,4;w3,30,5;w0,20,9;w2,15,9;w3,1,7;");
        // 44 MILES by road between the first two
        D.due("COPIER as an EXACT one", 88, x.walk(0, 0, 1));
        D.due("COPIER, not of himself", 88, x.walk(0, 1, 0));
        D.due("COPIER of a COPIER", 88, x.walk(3, 1, 0));
        D.due("EXACT", 48, x.walk(1, 0, 1));
        D.due("COPIER, the latest", 48, x.walk(0, 0, 1));
        D.due("SHORT", 43, x.walk(2, 1, 0));
        D.due("COPIER, either way", 43, x.walk(3, 0, 1));
        D.due("COPIER, another pair", 88, x.walk(0, 1, 2));
        D.due("COPIER, the latest, a COPIER's", 43, x.walk(0, 0, 1));
        x = Due.laid("t10,4;t20,4;w3,30,5;w0,20,9;w2,15,9;");
        x.walk(1, 0, 1);
        x.walk(2, 0, 1);
        D.due("COPIER of the SHORT one", 43, x.walk(0, 0, 1));
        x.strike(1);
        D.due("COPIER, the SHORT one struck out", 48, x.walk(0, 0, 1));
        x.strike(0);
        D.due("COPIER, all others struck out", 88, x.walk(0, 0, 1));
    }

    private static void days() {
        GirthReports x = new GirthReports();
        x.walk(0, 0, 1);
        D.due("days: 29 by 20", 2, x.count(4));
        x.walk(1, 2, 3);
        D.due("days: 114 by 25", 7, x.count(4));
        x.walk(2, 0, 3);
        D.due("days: 158 by 15", 18, x.count(4));
        x.walk(3, 3, 2);
        D.due("days: 114 by 30", 22, x.count(4));
        x.strike(1);
        D.due("days stay", 22, x.count(4));
        x.undo();
        D.due("days stay when a striking is undone", 22, x.count(4));
        x.undo();
        D.due("days of a walk undone", 18, x.count(4));
        x = Due.laid("g36;t1,4;t6,4;r0,1,0;w0,20,1;w0,21,1;w0,10,1;");
        x.walk(0, 0, 1);
        D.due("days: 20 by 20", 2, x.count(4));
        x.walk(1, 0, 1);
        D.due("days: 20 by 21", 3, x.count(4));
        x.walk(2, 0, 1);
        D.due("days: 20 by 10", 6, x.count(4));
    }

    private static void wrongWalks() {
        GirthReports x = new GirthReports();
        int[][] bad = {{-1, 0, 1}, {4, 0, 1}, {0, 0, 0}, {0, 3, 3}, {0, -1, 1}, {0, 0, 4}, {0, 4, 0}, {0, 1, -1},
            {Integer.MAX_VALUE, 0, 1}, {0, Integer.MIN_VALUE, Integer.MAX_VALUE}};
        for (int[] b : bad) {
            D.due("walk(" + b[0] + ", " + b[1] + ", " + b[2] + ")", BAD, x.walk(b[0], b[1], b[2]));
        }
        D.due("no walk: reports", 0, x.count(3));
        D.due("no walk: days", 0, x.count(4));
        D.due("no walk: nothing to undo", 0, x.count(6));
    }

    private static void full() {
        GirthReports x = new GirthReports();
        for (int i = 0; i < 9; i++) {
            D.due("walk, the " + i + "th", 32, x.walk(0, 0, 1));
        }
        int days = x.count(4);
        D.due("walk, the tenth", FULL, x.walk(0, 0, 1));
        D.due("walk, BAD ahead of FULL", BAD, x.walk(0, 0, 0));
        D.due("full: reports", 9, x.count(3));
        D.due("full: days", days, x.count(4));
        D.due("full: to undo", 8, x.count(6));
        x.strike(4);
        D.due("walk, where there is room again", 32, x.walk(0, 0, 1));
    }

    private static void strike() {
        GirthReports x = new GirthReports();
        D.due("strike(0) of none", BAD, x.strike(0));
        x.walk(0, 0, 1);
        x.walk(1, 2, 3);
        x.walk(2, 3, 0);
        D.due("strike(3) of three", BAD, x.strike(3));
        D.due("strike(-1)", BAD, x.strike(-1));
        D.due("strike(MAX)", BAD, x.strike(Integer.MAX_VALUE));
        D.due("nothing struck out", 3, x.count(3));
        D.due("nothing to undo but walks", 3, x.count(6));
        D.due("strike(1)", 2, x.strike(1));
        int[][] left = {{0, 0, 1, 32}, {2, 3, 0, 157}};
        for (int r = 0; r < 2; r++) {
            for (int what = 0; what < 4; what++) {
                D.due("left: report(" + r + ", " + what + ")", left[r][what], x.report(r, what));
            }
        }
        D.due("left: no third", BAD, x.report(2, 0));
        D.due("strike(0)", 1, x.strike(0));
        D.due("strike(0) again", 0, x.strike(0));
        D.due("to undo", 6, x.count(6));
    }

    private static void undo() {
        GirthReports x = new GirthReports();
        D.due("undo() of nothing", NO, x.undo());
        x.walk(0, 0, 1);
        x.walk(1, 2, 3);
        x.walk(2, 3, 0);
        x.strike(0);
        x.strike(1);
        D.due("undo() of a striking", 4, x.undo());
        D.due("the last is back", 157, x.report(1, 3));
        D.due("two reports", 2, x.count(3));
        D.due("undo() of the striking before", 3, x.undo());
        int[][] due = {{0, 0, 1, 32}, {1, 2, 3, 140}, {2, 3, 0, 157}};
        for (int r = 0; r < 3; r++) {
            for (int what = 0; what < 4; what++) {
                D.due("back: report(" + r + ", " + what + ")", due[r][what], x.report(r, what));
            }
        }
        D.due("undo() of a walk", 2, x.undo());
        D.due("two reports again", 2, x.count(3));
        D.due("days of two", 7, x.count(4));
        x.undo();
        D.due("undo() of the first walk", 0, x.undo());
        D.due("undo() of no more", NO, x.undo());
        D.due("no reports", 0, x.count(3));
        D.due("no days", 0, x.count(4));
        x.walk(0, 0, 1);
        x.undo();
        D.due("what is undone can't be undone", NO, x.undo());
    }

    private static void undoTheLastEight() {
        GirthReports x = new GirthReports();
        for (int i = 0; i < 9; i++) {
            x.walk(0, 0, 1);
        }
        x.strike(0);
        D.due("nine walks, a striking: to undo", 8, x.count(6));
        for (int left = 7; left >= 0; left--) {
            D.due("undo()", left, x.undo());
        }
        D.due("undo() of more than eight", NO, x.undo());
        D.due("the oldest two stay", 2, x.count(3));
        D.due("their days stay", 4, x.count(4));
    }

    private static void undoTheLastEightOfAllKinds() {
        GirthReports x = new GirthReports();
        x.walk(0, 0, 3);
        x.strike(0);
        x.walk(1, 3, 0);
        x.walk(2, 0, 3);
        x.strike(1);
        x.strike(0);
        x.walk(0, 1, 0);
        x.walk(2, 3, 0);
        x.strike(0);
        x.walk(1, 0, 3);
        x.strike(1);
        // of eleven, the first three stay
        int[] reports = {2, 1, 2, 1, 0, 1, 2, 1};
        // the walks took 8, 7, 11, 2, 11 and 7 days
        int[] days = {46, 39, 39, 28, 26, 26, 26, 15};
        for (int i = 0; i < 8; i++) {
            D.due("undo() of all kinds", 7 - i, x.undo());
            D.due("undo() of all kinds: reports", reports[i], x.count(3));
            D.due("undo() of all kinds: days", days[i], x.count(4));
            if (i == 0) {
                same(x, 1, 1, 0, 3, 200);
            } else if (i == 2) {
                same(x, 0, 0, 1, 0, 32);
            } else if (i == 5) {
                same(x, 0, 1, 3, 0, 200);
            } else if (i == 6) {
                same(x, 1, 2, 0, 3, 157);
            }
        }
        D.due("undo() of all kinds, no more", NO, x.undo());
        same(x, 0, 1, 3, 0, 200);
    }

    private static void undoAStrikingThatIsTheEighth() {
        GirthReports x = new GirthReports();
        x.walk(1, 3, 2);
        x.walk(2, 0, 3);
        x.strike(0);
        for (int i = 0; i < 7; i++) {
            x.walk(0, 0, 1);
        }
        for (int left = 7; left >= 0; left--) {
            D.due("undo() as far as a striking", left, x.undo());
        }
        D.due("undo() beyond the striking", NO, x.undo());
        same(x, 0, 1, 3, 2, 140);
        same(x, 1, 2, 0, 3, 157);
        D.due("two reports", 2, x.count(3));
    }

    private static void same(GirthReports x, int r, int w, int a, int b, int n) {
        D.due("report(" + r + ", 0)", w, x.report(r, 0));
        D.due("report(" + r + ", 1)", a, x.report(r, 1));
        D.due("report(" + r + ", 2)", b, x.report(r, 2));
        D.due("report(" + r + ", 3)", n, x.report(r, 3));
    }
}
