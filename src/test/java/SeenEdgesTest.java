/** Promises 19 to 22, edge by edge: see, forget, fits, towns. */
public final class SeenEdgesTest {
    private static final int BAD = -1, FULL = -3;
    private static final int MIN = Integer.MIN_VALUE, MAX = Integer.MAX_VALUE;
    private static final int EVERY_UNIT = 1022, EVERY_KIND = 15;
    private static final Due D = new Due();

    public static void main(String[] args) {
        seeSix();
        seeStadia();
        seeWrong();
        forget();
        units();
        kinds();
        ofHimAlone();
        fitsNow();
        fitsWrong();
        townsByShadow();
        townsWrong();
        D.end();
    }

    private static void seeSix() {
        D.sentence("SEEN (6 at most)");
        GirthReports x = new GirthReports();
        for (int many = 1; many <= 6; many++) {
            D.due("see, the " + many + "th", many, x.see(many % 4, 0, 1, 5));
            D.due("seen", many, x.count(5));
        }
        D.due("see, the seventh", FULL, x.see(0, 0, 1, 5));
        D.due("see, the seventh of another", FULL, x.see(3, 2, 3, 5));
        D.due("see, BAD ahead of FULL, by the WALKER", BAD, x.see(4, 0, 1, 5));
        D.due("see, BAD ahead of FULL, alike", BAD, x.see(0, 1, 1, 5));
        D.due("see, BAD ahead of FULL, by the STADIA", BAD, x.see(0, 0, 1, 10000));
        D.due("seen, full", 6, x.count(5));
        x.forget();
        D.due("see, forgotten", 1, x.see(0, 0, 1, 5));
    }

    private static void seeStadia() {
        D.sentence("a WALKER would tell n (0 to 9999) STADIA now between two TOWNS");
        GirthReports x = new GirthReports();
        for (int bad : new int[] {-1, 10000, 13200, MIN, MAX}) {
            D.due("see(0, 0, 1, " + bad + ")", BAD, x.see(0, 0, 1, bad));
        }
        D.due("nothing seen", 0, x.count(5));
        D.due("see(0, 0, 1, 0)", 1, x.see(0, 0, 1, 0));
        D.due("see(0, 0, 1, 9999)", 2, x.see(0, 0, 1, 9999));
        // 999 MILES by tenths: the most of an EXACT one that can be seen
        x = Due.laid("g90;t0,4;t74,4;r0,1,35;w0,1,1;");
        D.due("MILES", 999, x.between(0, 1, 1));
        x.see(0, 1, 0, 9990);
        D.due("fits(0, 0) of 9990", 1 << 1, x.fits(0, 0));
        // no MILES between both L
        x = Due.laid("t0,0;t0,8;w0,1,1;");
        x.see(0, 0, 1, 0);
        D.due("fits(0, 0) of nothing told", EVERY_UNIT, x.fits(0, 0));
        D.due("fits(0, 1) of nothing told", EVERY_KIND, x.fits(0, 1));
    }

    private static void seeWrong() {
        D.sentence("SEEN: how many. BAD (alike, too); FULL.");
        GirthReports x = Due.laid("t10,4;t20,4;t30,4;w0,1,1;w0,1,1;");
        int[][] bad = {
            {-1, 0, 1}, {2, 0, 1}, {MIN, 0, 1}, {MAX, 0, 1}, {0, 0, 0}, {1, 2, 2}, {0, -1, 0}, {0, 0, -1}, {0, 3, 0},
            {0, 0, 3}, {0, 3, 3}, {0, MIN, 0}, {0, 0, MAX}, {0, -1, -1}};
        for (int[] b : bad) {
            D.due("see(" + b[0] + ", " + b[1] + ", " + b[2] + ", 5)", BAD, x.see(b[0], b[1], b[2], 5));
        }
        D.due("seen", 0, x.count(5));
        D.due("see(1, 2, 0, 5)", 1, x.see(1, 2, 0, 5));
    }

    private static void forget() {
        D.sentence("Nothing is SEEN: how many were.");
        GirthReports x = new GirthReports();
        D.due("forget() of nothing", 0, x.forget());
        x.see(0, 0, 1, 5);
        D.due("forget() of one", 1, x.forget());
        D.due("forget() again", 0, x.forget());
        D.due("seen", 0, x.count(5));
        D.due("every unit fits", EVERY_UNIT, x.fits(0, 0));
        D.due("every kind fits", EVERY_KIND, x.fits(0, 1));
        for (int i = 0; i < 6; i++) {
            x.see(0, 0, 1, 5);
        }
        D.due("forget() of six", 6, x.forget());
        D.due("see, behind that", 1, x.see(0, 0, 1, 32));
        D.due("only that one counts", 1 << 9, x.fits(0, 0));
    }

    /** A MILE a degree: 10 MILES from the first town to the second, 9 to the third. */
    private static GirthReports seen(int kind, int unit, int... stadia) {
        GirthReports x = Due.laid("g9;t0,4;t10,4;t9,4;r0,1,0;r0,2,0;w" + kind + ",1," + unit + ";w0,1,1;");
        for (int i = 0; i < stadia.length; i++) {
            x.see(0, 0, i + 1, stadia[i]);
        }
        return x;
    }

    private static void units() {
        D.sentence("UNITS of a WALKER: U (bits 1 to 9) by which all that is SEEN of him would be so");
        D.due("nothing seen", EVERY_UNIT, seen(0, 5).fits(0, 0));
        D.due("U of 1", 1 << 1, seen(0, 5, 100).fits(0, 0));
        D.due("U of 9", 1 << 9, seen(0, 5, 11).fits(0, 0));
        D.due("U of 10 is none", 0, seen(0, 5, 10).fits(0, 0));
        D.due("one more than by U of 1", 0, seen(0, 5, 101).fits(0, 0));
        D.due("nothing told fits none", 0, seen(0, 5, 0).fits(0, 0));
        D.due("ROUNDING, three of them", 1 << 7 | 1 << 8 | 1 << 9, seen(1, 5, 10).fits(0, 0));
        D.due("ROUNDING, two of them", 1 << 3 | 1 << 4, seen(1, 5, 30).fits(0, 0));
        D.due("ROUNDING, one of them by two ways", 1 << 4, seen(1, 5, 30, 20).fits(0, 0));
        D.due("by one way, not by the other", 0, seen(0, 5, 100, 11).fits(0, 0));
        D.due("by the other way, not by the one", 0, seen(0, 5, 101, 90).fits(0, 0));
        D.due("SHORT", 1 << 3, seen(2, 5, 29, 27).fits(0, 0));
        D.due("what he has does not count", 1 << 5, seen(0, 9, 20, 18).fits(0, 0));
    }

    private static void kinds() {
        D.sentence("KINDS of him (bits 0 to 3) likewise");
        D.due("nothing seen", EVERY_KIND, seen(0, 5).fits(0, 1));
        D.due("three of them", 1 | 2 | 8, seen(0, 5, 20).fits(0, 1));
        D.due("EXACT, or COPIER with none to copy", 1 | 8, seen(2, 5, 20, 18).fits(0, 1));
        D.due("ROUNDING", 2, seen(0, 5, 20, 20).fits(0, 1));
        D.due("SHORT", 4, seen(0, 5, 18, 16).fits(0, 1));
        D.due("none by both ways", 0, seen(0, 5, 20, 16).fits(0, 1));
        D.due("none by one way", 0, seen(0, 5, 19).fits(0, 1));
        // by another U it would be SHORT
        D.due("his own U alone counts", 0, seen(2, 5, 29).fits(0, 1));
    }

    private static void ofHimAlone() {
        D.sentence("all that is SEEN of him");
        GirthReports x = seen(0, 5, 20);
        D.due("of the other nothing is seen: units", EVERY_UNIT, x.fits(1, 0));
        D.due("of the other nothing is seen: kinds", EVERY_KIND, x.fits(1, 1));
        x.see(1, 0, 1, 100);
        D.due("of the other: units", 1 << 1, x.fits(1, 0));
        D.due("of him, as before", 1 << 5, x.fits(0, 0));
        for (int i = 0; i < 3; i++) {
            x.see(1, 0, 1, 100);
        }
        D.due("see, the sixth", 6, x.see(0, 2, 0, 19));
        D.due("of him, the sixth counts", 0, x.fits(0, 0));
        D.due("of the other, the sixth does not", 1 << 1, x.fits(1, 0));
    }

    private static void fitsNow() {
        D.sentence("would tell n (0 to 9999) STADIA now");
        GirthReports x = seen(3, 5, 100);
        D.due("none to copy: units", 1 << 1, x.fits(0, 0));
        D.due("none to copy: kinds", 0, x.fits(0, 1));
        x.walk(1, 1, 0);
        D.due("one to copy: units", EVERY_UNIT, x.fits(0, 0));
        D.due("one to copy: kinds", 8, x.fits(0, 1));
        x.strike(0);
        D.due("that one struck out: units", 1 << 1, x.fits(0, 0));
        x.undo();
        x.see(0, 1, 0, 20);
        D.due("two unlike ones by one way: units", 0, x.fits(0, 0));
        D.due("two unlike ones by one way: kinds", 0, x.fits(0, 1));
        x = seen(0, 5, 20);
        x.walk(0, 0, 1);
        D.due("his own report is none to copy", 1 | 2 | 8, x.fits(0, 1));
        x.walk(1, 0, 1);
        D.due("another's is", 1 | 2, x.fits(0, 1));
    }

    private static void fitsWrong() {
        D.sentence("UNITS (what = 0), KINDS (1), as bits. BAD.");
        GirthReports x = seen(0, 5, 20);
        for (int bad : new int[] {-1, 2, 3, 4, MIN, MAX}) {
            D.due("fits(" + bad + ", 0)", BAD, x.fits(bad, 0));
            D.due("fits(" + bad + ", 1)", BAD, x.fits(bad, 1));
        }
        for (int bad : new int[] {-1, 2, 3, MIN, MAX}) {
            D.due("fits(0, " + bad + ")", BAD, x.fits(0, bad));
            D.due("fits(1, " + bad + ")", BAD, x.fits(1, bad));
        }
    }

    private static void townsByShadow() {
        D.sentence("those (bits) whose SHADOW is off s by 1 at most");
        GirthReports x = Due.laid("t50,4;t52,4;t49,5;t80,8;t0,0;t1,4;w0,1,1;");
        // shadows of 50, 52, 50, 84, 0 and 1
        int[][] due = {
            {48, 0}, {49, 1 | 4}, {50, 1 | 4}, {51, 1 | 2 | 4}, {52, 2}, {53, 2}, {54, 0}, {82, 0}, {83, 8}, {84, 8},
            {85, 8}, {86, 0}, {0, 16 | 32}, {1, 16 | 32}, {2, 32}, {3, 0}};
        for (int[] d : due) {
            D.due("towns(" + d[0] + ")", d[1], x.towns(d[0]));
        }
        x = Due.laid("t7,4;t7,4;t7,4;t7,4;t7,4;t7,4;w0,1,1;");
        D.due("towns, all six", 63, x.towns(8));
        x.wipe();
        Due.write(x, "t7,4;t7,4;w0,1,1;");
        x.lay();
        D.due("towns, none of the ball before", 3, x.towns(8));
    }

    private static void townsWrong() {
        D.sentence("TOWNS by s (0 to 90)");
        GirthReports x = new GirthReports();
        D.due("towns(0)", 0, x.towns(0));
        D.due("towns(90)", 0, x.towns(90));
        for (int bad : new int[] {-1, 91, 92, MIN, MAX}) {
            D.due("towns(" + bad + ")", BAD, x.towns(bad));
        }
    }
}
