/** Promises 19 to 22: see, forget, fits, towns. */
public final class SeenTest {
    private static final int BAD = -1, FULL = -3;
    private static final int EVERY_UNIT = 1022, EVERY_KIND = 15;
    private static final Due D = new Due();

    public static void main(String[] args) {
        see();
        forget();
        fitsUnits();
        fitsKinds();
        fitsAllThatIsSeen();
        fitsOfACopier();
        towns();
        D.end();
    }

    private static void see() {
        GirthReports x = new GirthReports();
        int[][] bad = {{-1, 0, 1, 5}, {4, 0, 1, 5}, {0, 0, 0, 5}, {0, 4, 1, 5}, {0, 0, 4, 5}, {0, -1, 0, 5},
            {0, 0, 1, -1}, {0, 0, 1, 10000}, {0, 0, 1, Integer.MAX_VALUE}};
        for (int[] b : bad) {
            D.due("see(" + b[0] + ", " + b[1] + ", " + b[2] + ", " + b[3] + ")", BAD,
                x.see(b[0], b[1], b[2], b[3]));
        }
        D.due("nothing seen", 0, x.count(5));
        for (int i = 1; i <= 6; i++) {
            D.due("see, the " + i + "th", i, x.see(i % 4, 0, 1, i == 1 ? 0 : 9999));
            D.due("seen", i, x.count(5));
        }
        D.due("see, one too many", FULL, x.see(0, 0, 1, 5));
        D.due("see, BAD ahead of FULL", BAD, x.see(0, 0, 0, 5));
        D.due("seen, still", 6, x.count(5));
        D.due("no report comes of it", 0, x.count(3));
        D.due("nothing to undo comes of it", 0, x.count(6));
    }

    private static void forget() {
        GirthReports x = new GirthReports();
        D.due("forget() of nothing", 0, x.forget());
        for (int i = 0; i < 6; i++) {
            x.see(0, 0, 1, 1);
        }
        D.due("nothing fits", 0, x.fits(0, 0));
        D.due("forget()", 6, x.forget());
        D.due("forgotten", 0, x.count(5));
        D.due("forgotten: every unit fits", EVERY_UNIT, x.fits(0, 0));
        D.due("forgotten: there is room", 1, x.see(0, 0, 1, 32));
        D.due("forgotten: only the new one counts", 1 << 9, x.fits(0, 0));
    }

    private static void fitsUnits() {
        GirthReports x = new GirthReports();
        D.due("fits(4, 0)", BAD, x.fits(4, 0));
        D.due("fits(-1, 0)", BAD, x.fits(-1, 0));
        D.due("fits(0, 2)", BAD, x.fits(0, 2));
        D.due("fits(0, -1)", BAD, x.fits(0, -1));
        for (int w = 0; w < 4; w++) {
            D.due("fits(" + w + ", 0) of nothing", EVERY_UNIT, x.fits(w, 0));
            D.due("fits(" + w + ", 1) of nothing", EVERY_KIND, x.fits(w, 1));
        }
        // 29 MILES: EXACT tells 290 145 96 72 58 48 41 36 32 by U of 1 to 9
        int[] exact = {290, 145, 96, 72, 58, 48, 41, 36, 32};
        int[] rounding = {290, 150, 100, 70, 60, 50, 40, 40, 30};
        int[] shortly = {261, 130, 86, 64, 52, 43, 36, 32, 28};
        for (int u = 1; u <= 9; u++) {
            D.due("units of EXACT " + u, 1 << u, unitsOf(0, exact[u - 1]));
            D.due("units of SHORT " + u, 1 << u, unitsOf(2, shortly[u - 1]));
            D.due("units of COPIER " + u, 1 << u, unitsOf(3, exact[u - 1]));
            int like = u == 7 || u == 8 ? 1 << 7 | 1 << 8 : 1 << u;
            D.due("units of ROUNDING " + u, like, unitsOf(1, rounding[u - 1]));
        }
        D.due("units by which nothing fits", 0, unitsOf(0, 33));
    }

    private static int unitsOf(int w, int n) {
        GirthReports x = new GirthReports();
        x.see(w, 1, 0, n);
        return x.fits(w, 0);
    }

    private static void fitsKinds() {
        // U of 9: EXACT tells 32, ROUNDING 30, SHORT 28
        D.due("kinds by 32", 1 | 8, kindsOf(0, 32));
        D.due("kinds by 30", 2, kindsOf(0, 30));
        D.due("kinds by 28", 4, kindsOf(0, 28));
        D.due("kinds by 29", 0, kindsOf(0, 29));
        D.due("kinds by 28 of the SHORT one", 4, kindsOf(2, 28));
        // U of 5: 58, 60, 52
        D.due("kinds by 58 of the COPIER", 1 | 8, kindsOf(3, 58));
        D.due("kinds by 60 of the COPIER", 2, kindsOf(3, 60));
        GirthReports x = Due.laid("g1;t0,4;t1,4;w0,1,9;");
        x.see(0, 0, 1, 0);
        D.due("kinds by nothing", EVERY_KIND, x.fits(0, 1));
        D.due("units by nothing", EVERY_UNIT, x.fits(0, 0));
    }

    private static int kindsOf(int w, int n) {
        GirthReports x = new GirthReports();
        x.see(w, 0, 1, n);
        return x.fits(w, 1);
    }

    private static void fitsAllThatIsSeen() {
        GirthReports x = new GirthReports();
        x.see(1, 0, 1, 40);
        D.due("two units by one way", 1 << 7 | 1 << 8, x.fits(1, 0));
        D.due("another walker", EVERY_UNIT, x.fits(0, 0));
        // 114 MILES: 162 and 142
        x.see(1, 3, 2, 140);
        D.due("one unit by two ways", 1 << 8, x.fits(1, 0));
        D.due("one kind by two ways", 2, x.fits(1, 1));
        x.see(0, 0, 1, 999);
        D.due("what is seen of another counts for him alone", 1 << 8, x.fits(1, 0));
        D.due("of him nothing fits", 0, x.fits(0, 0));
        x.see(1, 0, 1, 41);
        D.due("nothing fits both", 0, x.fits(1, 0));
        D.due("no kind fits both", 0, x.fits(1, 1));
    }

    private static void fitsOfACopier() {
        GirthReports x = new GirthReports();
        x.see(3, 0, 1, 32);
        D.due("units of a COPIER with none to copy", 1 << 9, x.fits(3, 0));
        D.due("kinds of a COPIER with none to copy", 0, x.fits(3, 1));
        x.walk(0, 1, 0);
        D.due("units of a COPIER who would copy now", EVERY_UNIT, x.fits(3, 0));
        D.due("kinds: it can only be copied", 8, x.fits(3, 1));
        // for WALKER 0 his own report is none to copy
        x.see(0, 0, 1, 32);
        D.due("kinds of the EXACT one", 1 | 8, x.fits(0, 1));
        x.walk(2, 0, 1);
        D.due("units, the latest being another's", 0, x.fits(3, 0));
        D.due("kinds, the latest being another's", 0, x.fits(3, 1));
        D.due("kinds of the EXACT one, who would copy 28", 1, x.fits(0, 1));
        x.undo();
        D.due("units, as before", EVERY_UNIT, x.fits(3, 0));
    }

    private static void towns() {
        GirthReports x = Due.laid("t0,0;t0,8;t4,4;t3,4;t80,8;t5,4;w0,1,1;");
        // shadows of 0 4 4 3 84 5
        int[] due = {1, 1, 8, 2 | 4 | 8, 2 | 4 | 8 | 32, 2 | 4 | 32, 32, 0};
        for (int s = 0; s < due.length; s++) {
            D.due("towns(" + s + ")", due[s], x.towns(s));
        }
        D.due("towns(82)", 0, x.towns(82));
        D.due("towns(83)", 16, x.towns(83));
        D.due("towns(85)", 16, x.towns(85));
        D.due("towns(86)", 0, x.towns(86));
        D.due("towns(90)", 0, x.towns(90));
        D.due("towns(91)", BAD, x.towns(91));
        D.due("towns(-1)", BAD, x.towns(-1));
        D.due("towns(MIN)", BAD, x.towns(Integer.MIN_VALUE));
    }
}
