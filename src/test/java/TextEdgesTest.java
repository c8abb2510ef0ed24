/** Promises 1 to 5, edge by edge: a new object, write, wipe, fault, lay. */
public final class TextEdgesTest {
    private static final int BAD = -1, NO = -2, FULL = -3, NONE = -4;
    private static final String FIRST =
        "g36;t24,4;t31,5;t38,4;t60,2;r0,1,6;r1,2,15;r0,2,10;r2,3,30;w0,20,9;w1,25,8;w2,15,9;w3,30,5;";
    /** As little as can be laid: 20 letters. */
    private static final String LEAST = "t10,4;t20,4;w0,10,1;";
    private static final Due D = new Due();

    public static void main(String[] args) {
        aNewObject();
        lettersFromThirtyTwo();
        twoHundredLetters();
        wiped();
        aLetterThatTellsAnItem();
        oneOrTwoFigures();
        commas();
        endOfAnItem();
        girths();
        girthWithout();
        towns();
        leaning();
        sixTowns();
        roadsOfTowns();
        bends();
        bendWithout();
        kinds();
        paces();
        units();
        fourWalkers();
        placeOfTheFault();
        noFault();
        leastToLay();
        nothingIsLeft();
        theTextStays();
        notLaid();
        D.end();
    }

    private static void sound(String text) {
        D.due("fault of " + text, NONE, Due.written(text).fault());
    }

    private static void wrong(int place, String text) {
        D.due("fault of " + text, place, Due.written(text).fault());
    }

    private static String times(int many, String item) {
        return item.repeat(many);
    }

    private static void aNewObject() {
        D.sentence("at first " + FIRST);
        GirthReports x = new GirthReports();
        D.due("at first: letters of the text", 0, x.count(8));
        D.due("at first: lay() of no text", NO, x.lay());
        Twins.alike(D, "a new object is as one on which its text is laid and wiped",
            GirthReports::new, () -> Due.laid(FIRST), GirthReports::wipe);
    }

    private static void lettersFromThirtyTwo() {
        D.sentence("A letter (32 to 126, as in ASCII) comes behind THE TEXT: how long it is. BAD; FULL.");
        GirthReports x = new GirthReports();
        int[] bad = {31, 127, 0, -1, 10, 128, 255, 'g' + 256, 'g' + 65536, Integer.MIN_VALUE, Integer.MAX_VALUE};
        for (int letter : bad) {
            D.due("write(" + letter + ")", BAD, x.write(letter));
        }
        D.due("nothing is written", 0, x.count(8));
        for (int letter = 32; letter <= 126; letter++) {
            D.due("write(" + letter + ")", letter - 31, x.write(letter));
        }
    }

    private static void twoHundredLetters() {
        D.sentence("A TEXT is letters (200 at most)");
        GirthReports x = Due.written(LEAST + times(59, "g1;") + "g2");
        D.due("199 letters", 199, x.count(8));
        D.due("199 letters: lay() without the last one", NO, x.lay());
        D.due("write, the 200th", 200, x.write(';'));
        D.due("write, the 201st", FULL, x.write(';'));
        D.due("write, BAD ahead of FULL", BAD, x.write(127));
        D.due("200 letters", 200, x.count(8));
        D.due("200 letters: fault()", NONE, x.fault());
        D.due("200 letters: lay()", 2, x.lay());
        D.due("200 letters: the last item counts", 80, x.count(2));
        D.due("wipe() of 200", 200, x.wipe());
        D.due("wiped: there is room", 1, x.write(';'));
    }

    private static void wiped() {
        D.sentence("THE TEXT is empty: how long it was.");
        GirthReports x = new GirthReports();
        D.due("wipe() of nothing", 0, x.wipe());
        x.write('x');
        D.due("wipe() of a letter", 1, x.wipe());
        D.due("wiped: letters", 0, x.count(8));
        D.due("wiped: no fault", NONE, x.fault());
        D.due("wipe() again", 0, x.wipe());
        Due.write(x, LEAST);
        x.wipe();
        x.write('t');
        D.due("wiped: nothing of the old text is read", 0, x.fault());
        x.wipe();
        Due.write(x, "g1;");
        x.wipe();
        Due.write(x, "g2");
        D.due("wiped: nor the letter just behind the new one", 0, x.fault());
        D.due("wiped: the ball stays", 4, x.count(0));
    }

    private static void aLetterThatTellsAnItem() {
        D.sentence("ITEMS one behind the other, each a letter, then numbers");
        for (int letter = 32; letter <= 126; letter++) {
            if ("gtrw".indexOf(letter) < 0) {
                wrong(0, (char) letter + "1;");
                wrong(0, (char) letter + "0,1,1;");
            }
        }
        wrong(0, ";");
        wrong(0, ",");
        wrong(0, " ");
        wrong(3, "g1; g2;");
        wrong(3, "g1;;g2;");
        wrong(0, "G1;");
        sound("g1;g2;");
        sound("w0,1,1;t0,0;g1;t1,1;r0,1,1;");
    }

    private static void oneOrTwoFigures() {
        D.sentence("numbers (one or two figures)");
        wrong(0, "g;");
        sound("g1;");
        sound("g01;");
        wrong(0, "g001;");
        wrong(0, "t,4;");
        wrong(0, "t4,;");
        sound("t00,08;");
        wrong(0, "t000,8;");
        wrong(0, "t0,008;");
        wrong(0, "w,1,1;");
        wrong(0, "w0,,1;");
        wrong(0, "w0,1,;");
        sound("w00,01,01;");
        wrong(0, "w0,001,1;");
        wrong(10, "t0,0;t1,1;r0,1,;");
        wrong(10, "t0,0;t1,1;r0,1,000;");
        sound("t0,0;t1,1;r00,01,00;");
        String[] noFigures = {"/", ":", "-1", "+1", " 1", "1 ", "a", "1a", "1.", "1/", "1:", "g"};
        for (String number : noFigures) {
            wrong(0, "g" + number + ";");
            wrong(0, "t1," + number + ";");
        }
    }

    private static void commas() {
        D.sentence("parted by , and a ; behind the last one");
        wrong(0, "t1;1;");
        wrong(0, "t1 1;");
        wrong(0, "t11;");
        wrong(0, "t1,,1;");
        wrong(0, "t,1,1;");
        wrong(0, "t1,1,;");
        wrong(0, "w0;1;1;");
        wrong(0, "w0,1;1;");
        wrong(0, "g1,1;");
        wrong(0, "g1,;");
        wrong(0, "t1,1,1;");
        wrong(0, "w0,1,1,1;");
        wrong(0, "w0,1;");
        wrong(10, "t1,1;t2,2;r0,1;");
        wrong(10, "t1,1;t2,2;r0,1,1,1;");
    }

    private static void endOfAnItem() {
        D.sentence("a ; behind the last one");
        String[] whole = {"g1;", "t10,4;", "w0,10,1;"};
        for (String item : whole) {
            sound(item);
            for (int end = 1; end < item.length(); end++) {
                wrong(0, item.substring(0, end));
                wrong(3, "g1;" + item.substring(0, end));
                wrong(0, item.substring(0, end) + "g1;");
            }
        }
        wrong(0, "g1,");
        wrong(0, "g1g1;");
        wrong(0, "t1,1,");
    }

    private static int girthOf(String items) {
        return Due.laid(LEAST + items).count(2);
    }

    private static void girths() {
        D.sentence("gG the GIRTH is 40 times G (1 to 99) MILES");
        wrong(0, "g0;");
        wrong(0, "g00;");
        wrong(0, "g100;");
        D.due("GIRTH by g1;", 40, girthOf("g1;"));
        D.due("GIRTH by g99;", 3960, girthOf("g99;"));
    }

    private static void girthWithout() {
        D.sentence("(36 without; the last one)");
        D.due("GIRTH without", 1440, girthOf(""));
        D.due("GIRTH, the last of two", 80, girthOf("g99;g2;"));
        D.due("GIRTH, the last of three", 3960, girthOf("g1;g2;g99;"));
        D.due("GIRTH, told ahead", 40, Due.laid("g1;" + LEAST).count(2));
        GirthReports x = Due.laid("g1;" + LEAST);
        x.wipe();
        Due.write(x, LEAST);
        x.lay();
        D.due("GIRTH without, behind a ball that had one", 1440, x.count(2));
    }

    private static void towns() {
        D.sentence("tL,W a TOWN that lies L (0 to 80) degrees north");
        wrong(0, "t81,4;");
        wrong(0, "t99,4;");
        GirthReports x = Due.laid("t0,4;t80,4;w0,1,1;");
        D.due("L of 0", 0, x.town(0, 0));
        D.due("L of 80", 80, x.town(1, 0));
    }

    private static void leaning() {
        D.sentence("LEANS by W (0 to 8) less 4 degrees to the north");
        wrong(0, "t10,9;");
        wrong(0, "t10,99;");
        GirthReports x = Due.laid("t10,0;t10,4;t10,8;w0,1,1;");
        D.due("SHADOW by W of 0", 6, x.town(0, 1));
        D.due("SHADOW by W of 4", 10, x.town(1, 1));
        D.due("SHADOW by W of 8", 14, x.town(2, 1));
    }

    private static void sixTowns() {
        D.sentence("6 at most, 0, 1, ..");
        sound(times(6, "t1,1;"));
        wrong(30, times(7, "t1,1;"));
        wrong(37, times(6, "t1,1;") + "w0,1,1;t1,1;");
        GirthReports x = Due.laid("t1,4;t2,4;t3,4;t4,4;t5,4;t6,4;w0,1,1;");
        D.due("six towns", 6, x.count(0));
        for (int t = 0; t < 6; t++) {
            D.due("town(" + t + ", 0)", t + 1, x.town(t, 0));
        }
        D.due("town(6, 0)", BAD, x.town(6, 0));
    }

    private static void roadsOfTowns() {
        D.sentence("rA,B,R the ROAD between TOWNS A and B (unlike, both told ahead)");
        wrong(0, "r0,1,5;");
        wrong(0, "r0,1,5;t1,1;t2,2;");
        wrong(5, "t1,1;r0,1,5;t2,2;");
        wrong(5, "t1,1;r1,0,5;t2,2;");
        wrong(5, "t1,1;r0,0,5;");
        wrong(10, "t1,1;t2,2;r0,0,5;");
        wrong(10, "t1,1;t2,2;r1,1,5;");
        wrong(10, "t1,1;t2,2;r0,2,5;");
        wrong(10, "t1,1;t2,2;r2,0,5;");
        wrong(10, "t1,1;t2,2;r1,2,5;t3,3;");
        sound("t1,1;t2,2;r0,1,5;");
        sound("t1,1;t2,2;r1,0,5;");
        sound(times(6, "t1,1;") + "r5,0,5;r4,5,5;");
        wrong(30, times(6, "t1,1;") + "r6,0,5;");
        wrong(30, times(6, "t1,1;") + "r0,6,5;");
        wrong(30, times(6, "t1,1;") + "r99,0,5;");
    }

    /** Between towns 50 degrees of 2 MILES apart: 100 MILES, and a MILE more by each hundredth. */
    private static GirthReports byRoads(String roads) {
        return Due.laid("g18;t0,4;t50,4;t0,4;w0,1,1;" + roads);
    }

    private static void bends() {
        D.sentence("is R (0 to 50) hundredths longer than straight");
        wrong(10, "t1,1;t2,2;r0,1,51;");
        wrong(10, "t1,1;t2,2;r0,1,99;");
        D.due("ROAD by R of 0", 100, byRoads("r0,1,0;").between(0, 1, 1));
        D.due("ROAD by R of 50", 150, byRoads("r0,1,50;").between(0, 1, 1));
        D.due("ROAD by R of 50, back", 150, byRoads("r0,1,50;").between(1, 0, 1));
    }

    private static void bendWithout() {
        D.sentence("(10 without; the last one of each two)");
        D.due("ROAD without", 110, byRoads("").between(0, 1, 1));
        D.due("ROAD, the last of two", 107, byRoads("r0,1,50;r0,1,7;").between(0, 1, 1));
        D.due("ROAD, the last of two, told the other way", 107, byRoads("r0,1,50;r1,0,7;").between(0, 1, 1));
        D.due("ROAD, the last of two, back", 107, byRoads("r1,0,50;r0,1,7;").between(1, 0, 1));
        D.due("ROAD, other two do not count", 150, byRoads("r0,1,50;r1,2,7;").between(0, 1, 1));
        D.due("ROAD, without, beside other two", 110, byRoads("r0,1,50;").between(2, 1, 1));
        GirthReports x = byRoads("r0,1,50;");
        x.wipe();
        Due.write(x, "g18;t0,4;t50,4;w0,1,1;");
        x.lay();
        D.due("ROAD without, behind a ball that had one", 110, x.between(0, 1, 1));
    }

    private static void kinds() {
        D.sentence("wK,P,U a WALKER of KIND K (0 EXACT, 1 ROUNDING, 2 SHORT, 3 COPIER)");
        wrong(0, "w4,1,1;");
        wrong(0, "w99,1,1;");
        GirthReports x = Due.laid("t0,0;t1,1;w0,1,1;w1,1,1;w2,1,1;w3,1,1;");
        for (int w = 0; w < 4; w++) {
            D.due("walker(" + w + ", 0)", w, x.walker(w, 0));
        }
    }

    private static void paces() {
        D.sentence("who goes P (1 to 40) MILES a day");
        wrong(0, "w0,0,1;");
        wrong(0, "w0,00,1;");
        wrong(0, "w0,41,1;");
        wrong(0, "w0,99,1;");
        GirthReports x = Due.laid("t0,0;t1,1;w0,1,1;w0,40,1;");
        D.due("P of 1", 1, x.walker(0, 1));
        D.due("P of 40", 40, x.walker(1, 1));
    }

    private static void units() {
        D.sentence("tells STADIA of U (1 to 9) tenths of a MILE");
        wrong(0, "w0,1,0;");
        wrong(0, "w0,1,00;");
        wrong(0, "w0,1,10;");
        wrong(0, "w0,1,99;");
        GirthReports x = Due.laid("t0,0;t1,1;w0,1,1;w0,1,9;");
        D.due("U of 1", 1, x.walker(0, 2));
        D.due("U of 9", 9, x.walker(1, 2));
    }

    private static void fourWalkers() {
        D.sentence("4 at most, 0, 1, ..");
        sound(times(4, "w0,1,1;"));
        wrong(28, times(5, "w0,1,1;"));
        wrong(31, times(4, "w0,1,1;") + "g1;w0,1,1;");
        GirthReports x = Due.laid("t0,0;t1,1;w0,5,1;w0,6,1;w0,7,1;w0,8,1;");
        D.due("four walkers", 4, x.count(1));
        for (int w = 0; w < 4; w++) {
            D.due("walker(" + w + ", 1)", w + 5, x.walker(w, 1));
        }
        D.due("walker(4, 0)", BAD, x.walker(4, 0));
    }

    private static void placeOfTheFault() {
        D.sentence("FAULT: the place of the first letter of the first ITEM that is not so.");
        wrong(0, "x");
        wrong(0, "g0;g1;g1;");
        wrong(3, "g1;g0;");
        wrong(3, "g1;t10,4");
        wrong(3, "g1;g0;g0;");
        wrong(3, "g1;t81,0;x");
        wrong(6, LEAST.substring(0, 6) + "t20,9;w9,99,99;");
        String most = LEAST + times(58, "g1;") + "t1,1;";
        D.due("199 letters", 199, most.length());
        wrong(199, most + "g");
        wrong(194, most.substring(0, 198) + ".");
        GirthReports x = Due.written("g1;g0;");
        D.due("fault()", 3, x.fault());
        D.due("fault() again", 3, x.fault());
        x.wipe();
        D.due("fault(), the text wiped", NONE, x.fault());
    }

    private static void noFault() {
        D.sentence("FAULT. NONE.");
        sound("");
        sound("g1;");
        sound("t1,1;");
        sound(LEAST);
        sound(times(66, "g1;"));
        Twins.unchanged(D, "fault() of a sound text", NONE, () -> Due.written(LEAST), GirthReports::fault);
        Twins.unchanged(D, "fault() of a text that is not", 20, () -> Due.written(LEAST + "x"), GirthReports::fault);
    }

    private static void leastToLay() {
        D.sentence("LAID is a TEXT without FAULT, of two TOWNS and a WALKER at least (NO else");
        String[] tooLittle = {
            "", "g1;", "t10,4;", "t10,4;w0,10,1;", "w0,10,1;", "t10,4;t20,4;", "t10,4;t20,4;r0,1,5;",
            "w0,1,1;w0,1,1;t0,0;", LEAST + "x", LEAST + "g0;", LEAST.substring(0, 19), "g0;" + LEAST};
        for (String text : tooLittle) {
            D.due("lay() of " + text, NO, Due.written(text).lay());
        }
        GirthReports x = Due.written(LEAST);
        D.due("lay()", 2, x.lay());
        D.due("laid: towns", 2, x.count(0));
        D.due("laid: walkers", 1, x.count(1));
        D.due("lay() of towns alike", 2, Due.written("t1,1;t1,1;w0,1,1;").lay());
        D.due("lay() of walkers ahead", 2, Due.written("w0,1,1;t1,1;t1,1;").lay());
        D.due("lay() of as much as can be told", 6, Due.written(times(6, "t1,1;") + times(4, "w0,1,1;")).lay());
    }

    /** A past of everything that a new ball does away with. */
    private static GirthReports busy() {
        GirthReports x = new GirthReports();
        Due.walk(x, 3, 0, 0, 1);
        x.keep();
        x.strike(0);
        x.keep();
        x.see(0, 0, 1, 5);
        return x;
    }

    private static void nothingIsLeft() {
        D.sentence("LAID: how many TOWNS; no REPORTS, no days, nothing SEEN, UNDONE, KEPT");
        GirthReports x = busy();
        Due.write(x, LEAST);
        D.due("lay()", 2, x.lay());
        D.due("laid: reports", 0, x.count(3));
        D.due("laid: report(0, 0)", BAD, x.report(0, 0));
        D.due("laid: days", 0, x.count(4));
        D.due("laid: seen", 0, x.count(5));
        D.due("laid: every unit fits", 1022, x.fits(0, 0));
        D.due("laid: can be undone", 0, x.count(6));
        D.due("laid: undo()", NO, x.undo());
        D.due("laid: kept", 0, x.count(7));
        D.due("laid: back()", NO, x.back());
        Twins.alike(D, "a ball laid behind walks is as one laid at once", () -> Due.laid(LEAST), TextEdgesTest::busy,
            y -> {
                Due.write(y, LEAST);
                y.lay();
            });
        Twins.alike(D, "a ball laid twice is as one laid once", () -> Due.laid(LEAST), () -> Due.laid(LEAST),
            GirthReports::lay);
    }

    private static void theTextStays() {
        D.sentence("THE TEXT stays.");
        GirthReports x = Due.laid(LEAST);
        D.due("laid: letters", 20, x.count(8));
        D.due("laid: fault()", NONE, x.fault());
        D.due("laid: lay() again", 2, x.lay());
        Due.write(x, "t5,4;");
        D.due("laid: what is written comes behind it", 3, x.lay());
        D.due("laid: wipe()", 25, x.wipe());
    }

    private static void notLaid() {
        D.sentence("THE TEXT stays. NO.");
        String[] refused = {"", "t0,0;w3,1,1;", "g1;t0,0;t9,9;", "g1;t0,0;t80,8;w3,1,1;x", "g1;t0,0;t80,8;r0,1,50;w3,1,1"};
        for (String text : refused) {
            Twins.unchanged(D, "lay() of " + text, NO, () -> {
                GirthReports x = busy();
                Due.write(x, text);
                return x;
            }, GirthReports::lay);
        }
    }
}
