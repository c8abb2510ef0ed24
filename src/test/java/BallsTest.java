/** Promises 1 to 9: a new object, write, wipe, fault, lay, town, between, walker, report. */
public final class BallsTest {
    private static final int BAD = -1, NO = -2, FULL = -3, NONE = -4;
    private static final Due D = new Due();

    public static void main(String[] args) {
        newObject();
        write();
        wipe();
        fault();
        faultOfCounts();
        lay();
        layKeepsNothing();
        refusedLayChangesNothing();
        town();
        between();
        walker();
        report();
        D.end();
    }

    private static void newObject() {
        GirthReports x = new GirthReports();
        int[] counts = {4, 4, 1440, 0, 0, 0, 0, 0, 0};
        for (int what = 0; what < counts.length; what++) {
            D.due("new: count(" + what + ")", counts[what], x.count(what));
        }
        int[] lies = {24, 31, 38, 60};
        int[] shadows = {24, 32, 38, 58};
        for (int t = 0; t < 4; t++) {
            D.due("new: town(" + t + ", 0)", lies[t], x.town(t, 0));
            D.due("new: town(" + t + ", 1)", shadows[t], x.town(t, 1));
        }
        int[][] roads = {{0, 1, 29}, {1, 2, 32}, {0, 2, 61}, {2, 3, 114}, {0, 3, 158}, {1, 3, 127}};
        for (int[] road : roads) {
            D.due("new: a road", road[2], x.between(road[0], road[1], 1));
            D.due("new: a road back", road[2], x.between(road[1], road[0], 1));
        }
        int[][] walkers = {{0, 20, 9}, {1, 25, 8}, {2, 15, 9}, {3, 30, 5}};
        for (int w = 0; w < 4; w++) {
            for (int what = 0; what < 3; what++) {
                D.due("new: walker(" + w + ", " + what + ")", walkers[w][what], x.walker(w, what));
            }
        }
        D.due("new: fault()", NONE, x.fault());
        D.due("new: lay()", NO, x.lay());
        D.due("new: undo()", NO, x.undo());
        D.due("new: back()", NO, x.back());
        D.due("new: forget()", 0, x.forget());
        D.due("new: report(0, 0)", BAD, x.report(0, 0));
    }

    private static void write() {
        GirthReports x = new GirthReports();
        for (int letter : new int[] {31, 127, 0, -1, 256 + 'g', Integer.MIN_VALUE, Integer.MAX_VALUE}) {
            D.due("write(" + letter + ")", BAD, x.write(letter));
        }
        D.due("write: none so far", 0, x.count(8));
        D.due("write(32)", 1, x.write(32));
        D.due("write(126)", 2, x.write(126));
        for (int i = 3; i <= 200; i++) {
            D.due("write, the " + i + "th", i, x.write('g'));
        }
        D.due("write, one too many", FULL, x.write('g'));
        D.due("write, BAD ahead of FULL", BAD, x.write(31));
        D.due("write, full", 200, x.count(8));
    }

    private static void wipe() {
        GirthReports x = Due.written("g1;");
        D.due("wipe()", 3, x.wipe());
        D.due("wipe() again", 0, x.wipe());
        D.due("wiped", 0, x.count(8));
        D.due("wiped: write", 1, x.write('g'));
        D.due("wiped: the old letters are gone", 0, x.fault());
        D.due("wiped: write again", 2, x.write('1'));
        D.due("wiped: the old ; is gone", 0, x.fault());
        x.wipe();
        for (int i = 0; i < 200; i++) {
            x.write('a');
        }
        D.due("wipe() of 200", 200, x.wipe());
        D.due("wiped: there is room", 1, x.write('a'));
    }

    private static void fault() {
        String[] sound = {
            "", "g1;", "g99;", "g01;", "g5;g6;", "t0,0;", "t80,8;", "t00,08;", "w0,1,1;", "w3,40,9;",
            "t1,1;t2,2;r0,1,0;", "t1,1;t2,2;r1,0,50;", "t1,1;t2,2;r00,01,50;r1,0,3;", "w1,09,01;g7;"};
        for (String text : sound) {
            D.due("fault of " + text, NONE, Due.written(text).fault());
        }
        String[] atFirst = {
            "g0;", "g00;", "g100;", "g;", "g", "g1", "g1,", "g1,1;", "g 1;", "g1 ;", "G1;", "x", ";", ",", "1;",
            " g1;", "g-1;", "g+1;", "gg1;", "t81,0;", "t0,9;", "t0;", "t0,", "t,0;", "t0,0", "t0,0,0;", "t0,,0;",
            "t000,0;", "t0;0;", "r0,1,5;", "w4,1,1;", "w0,0,1;", "w0,41,1;", "w0,1,0;", "w0,1,10;", "w0,1;",
            "w0,1,1,", "w0,1,1,1;", "w0,1,1", "w", "t", "r", "a1;", "g/;", "g:;"};
        for (String text : atFirst) {
            D.due("fault of " + text, 0, Due.written(text).fault());
            D.due("fault behind g1;g2; of " + text, 6, Due.written("g1;g2;" + text).fault());
            D.due("fault ahead of another, of " + text, 0, Due.written(text + "x").fault());
        }
        String two = "t1,1;t2,2;";
        String[] behindTwo = {"r0,0,5;", "r0,2,5;", "r2,0,5;", "r0,1,51;", "r0,1;", "r0,1,5", "r1,1,0;"};
        for (String text : behindTwo) {
            D.due("fault of " + two + text, 10, Due.written(two + text).fault());
        }
        D.due("fault: a road ahead of its town", 5, Due.written("t1,1;r0,1,5;t2,2;").fault());
        D.due("fault: the first of two", 3, Due.written("g1;g0;t99,0;").fault());
    }

    private static void faultOfCounts() {
        String six = "t0,4;t1,4;t2,4;t3,4;t4,4;t5,4;";
        D.due("fault: six towns", NONE, Due.written(six).fault());
        D.due("fault: seven towns", 30, Due.written(six + "t6,4;").fault());
        D.due("fault: a road of the last town", NONE, Due.written(six + "r5,0,1;").fault());
        D.due("fault: a road beyond the last town", 30, Due.written(six + "r6,0,1;").fault());
        String four = "w0,1,1;w1,1,1;w2,1,1;w3,1,1;";
        D.due("fault: four walkers", NONE, Due.written(four).fault());
        D.due("fault: five walkers", 28, Due.written(four + "w0,1,1;").fault());
        GirthReports x = Due.written("g0;");
        D.due("fault() twice", x.fault(), x.fault());
        D.due("fault() changes no ball", 1440, x.count(2));
        D.due("fault() leaves the text", 3, x.count(8));
        StringBuilder many = new StringBuilder();
        for (int i = 0; i < 66; i++) {
            many.append("g1;");
        }
        D.due("fault: 66 items", NONE, Due.written(many.toString()).fault());
        D.due("fault: cut off by the end", 198, Due.written(many + "g1").fault());
    }

    private static void lay() {
        GirthReports x = Due.written("t10,4;t20,4;w0,10,1;");
        D.due("lay()", 2, x.lay());
        D.due("lay: the girth without g", 1440, x.count(2));
        D.due("lay: towns", 2, x.count(0));
        D.due("lay: walkers", 1, x.count(1));
        D.due("lay: the text stays", 20, x.count(8));
        D.due("lay: a road without r", 44, x.between(0, 1, 1));
        D.due("lay() again", 2, x.lay());
        D.due("lay: no second walker", BAD, x.walker(1, 0));
        x = Due.laid("g5;t10,4;t20,4;g7;w0,10,1;r0,1,50;r1,0,0;");
        D.due("lay: the last g", 280, x.count(2));
        D.due("lay: the last r of two, either way", 7, x.between(0, 1, 1));
        D.due("lay: the last r of two, back", 7, x.between(1, 0, 1));
        x = Due.laid("g5;t10,4;t20,4;t30,4;w0,10,1;");
        x.wipe();
        Due.write(x, "t0,4;t80,4;w3,1,2;");
        D.due("lay() of another ball", 2, x.lay());
        D.due("lay: nothing of the old girth", 1440, x.count(2));
        D.due("lay: nothing of the old towns", BAD, x.town(2, 0));
    }

    private static void layKeepsNothing() {
        GirthReports x = new GirthReports();
        x.walk(0, 0, 1);
        x.keep();
        x.walk(1, 0, 1);
        x.strike(0);
        x.see(0, 0, 1, 5);
        Due.write(x, "t10,4;t20,4;w0,10,1;r0,1,50;");
        D.due("lay() after walks", 2, x.lay());
        int[] counts = {2, 1, 1440, 0, 0, 0, 0, 0, 28};
        for (int what = 0; what < counts.length; what++) {
            D.due("laid: count(" + what + ")", counts[what], x.count(what));
        }
        D.due("laid: undo()", NO, x.undo());
        D.due("laid: back()", NO, x.back());
        D.due("laid: mean()", NONE, x.mean());
        D.due("laid: fits(0, 0)", 1022, x.fits(0, 0));
        x.wipe();
        Due.write(x, "t10,4;t20,4;w0,10,1;");
        x.lay();
        D.due("laid: no road of the ball before", 44, x.between(0, 1, 1));
    }

    private static void refusedLayChangesNothing() {
        String[] refused = {
            "", "t10,4;w0,10,1;", "t10,4;t20,4;", "g5;t10,4;t20,4;w0,10,1;g0;", "g5;t10,4;t20,4;w0,10,1", "w0,1,1;",
            "g5;"};
        for (String text : refused) {
            GirthReports x = new GirthReports();
            x.walk(0, 0, 1);
            x.see(0, 0, 1, 5);
            x.keep();
            Due.write(x, text);
            D.due("lay() of " + text, NO, x.lay());
            int[] counts = {4, 4, 1440, 1, 2, 1, 1, 1, text.length()};
            for (int what = 0; what < counts.length; what++) {
                D.due("not laid, " + text + ": count(" + what + ")", counts[what], x.count(what));
            }
            D.due("not laid, " + text + ": a road", 29, x.between(0, 1, 1));
            D.due("not laid, " + text + ": a report", 32, x.report(0, 3));
            D.due("not laid, " + text + ": a walker", 25, x.walker(1, 1));
        }
    }

    private static void town() {
        GirthReports x = Due.laid("t0,0;t3,0;t4,0;t80,8;t80,0;t7,4;w0,1,1;");
        int[] lies = {0, 3, 4, 80, 80, 7};
        int[] shadows = {0, 0, 0, 84, 76, 7};
        for (int t = 0; t < 6; t++) {
            D.due("town(" + t + ", 0)", lies[t], x.town(t, 0));
            D.due("town(" + t + ", 1)", shadows[t], x.town(t, 1));
            D.due("town(" + t + ", 2)", BAD, x.town(t, 2));
            D.due("town(" + t + ", -1)", BAD, x.town(t, -1));
        }
        int[] none = {6, -1, Integer.MIN_VALUE, Integer.MAX_VALUE};
        for (int t : none) {
            D.due("town(" + t + ", 0)", BAD, x.town(t, 0));
        }
        D.due("town(4, 0) of four", BAD, new GirthReports().town(4, 0));
    }

    private static void between() {
        GirthReports x = Due.laid("g99;t0,0;t1,8;t80,3;w0,1,1;r0,1,50;r2,1,33;");
        // 3960 MILES round: 11 a degree
        D.due("between(0, 1, 0)", 11, x.between(0, 1, 0));
        D.due("between(0, 1, 1)", 16, x.between(0, 1, 1));
        D.due("between(0, 1, 2)", 5, x.between(0, 1, 2));
        D.due("between(1, 0, 0)", 11, x.between(1, 0, 0));
        D.due("between(1, 0, 1)", 16, x.between(1, 0, 1));
        D.due("between(1, 0, 2)", 5, x.between(1, 0, 2));
        D.due("between(0, 2, 0)", 880, x.between(0, 2, 0));
        D.due("between(0, 2, 1)", 968, x.between(0, 2, 1));
        D.due("between(0, 2, 2)", 79, x.between(0, 2, 2));
        D.due("between(1, 2, 0)", 869, x.between(1, 2, 0));
        D.due("between(1, 2, 1)", 1155, x.between(1, 2, 1));
        D.due("between(1, 2, 2)", 74, x.between(1, 2, 2));
        int[][] bad = {{0, 0, 0}, {2, 2, 2}, {0, 3, 0}, {3, 0, 0}, {-1, 0, 0}, {0, -1, 0}, {0, 1, 3}, {0, 1, -1},
            {Integer.MAX_VALUE, Integer.MIN_VALUE, 0}};
        for (int[] b : bad) {
            D.due("between(" + b[0] + ", " + b[1] + ", " + b[2] + ")", BAD, x.between(b[0], b[1], b[2]));
        }
        x = Due.laid("g7;t10,4;t13,4;w0,1,1;");
        D.due("between, cut: 280 times 3 by 360", 2, x.between(0, 1, 0));
        D.due("between, cut of what was cut", 2, x.between(0, 1, 1));
    }

    private static void walker() {
        GirthReports x = Due.laid("t0,0;t1,1;w3,40,9;w0,1,1;w2,33,5;");
        int[][] told = {{3, 40, 9}, {0, 1, 1}, {2, 33, 5}};
        for (int w = 0; w < 3; w++) {
            for (int what = 0; what < 3; what++) {
                D.due("walker(" + w + ", " + what + ")", told[w][what], x.walker(w, what));
            }
            D.due("walker(" + w + ", 3)", BAD, x.walker(w, 3));
            D.due("walker(" + w + ", -1)", BAD, x.walker(w, -1));
        }
        D.due("walker(3, 0)", BAD, x.walker(3, 0));
        D.due("walker(-1, 0)", BAD, x.walker(-1, 0));
        D.due("walker(MAX, 0)", BAD, x.walker(Integer.MAX_VALUE, 0));
    }

    private static void report() {
        // 3600 MILES round, 10 a degree; shadows at 10, 10, 12, 13, 30
        GirthReports x = Due.laid("g90;t10,4;t11,3;t12,4;t12,5;t30,4;w0,10,3;w3,5,7;");
        int[][] walks = {{0, 0, 1}, {0, 2, 0}, {0, 0, 3}, {0, 4, 0}, {1, 0, 4}};
        // WALKER, from, to, STADIA, GIRTH, least, most; roads of 11, 22, 22 and 220 MILES
        int[][] due = {
            {0, 0, 1, 36, NONE, 1944, NONE},
            {0, 2, 0, 73, 3942, 1971, NONE},
            {0, 0, 3, 73, 2628, 1576, 7884},
            {0, 4, 0, 733, 3958, 3598, 4398},
            {1, 0, 4, 733, 9235, 8396, 10262}};
        for (int[] w : walks) {
            x.walk(w[0], w[1], w[2]);
        }
        for (int r = 0; r < due.length; r++) {
            for (int what = 0; what < 7; what++) {
                D.due("report(" + r + ", " + what + ")", due[r][what], x.report(r, what));
            }
            D.due("report(" + r + ", 7)", BAD, x.report(r, 7));
            D.due("report(" + r + ", -1)", BAD, x.report(r, -1));
        }
        D.due("report(5, 0)", BAD, x.report(5, 0));
        D.due("report(-1, 0)", BAD, x.report(-1, 0));
        D.due("report(MAX, 0)", BAD, x.report(Integer.MAX_VALUE, 0));
    }
}
