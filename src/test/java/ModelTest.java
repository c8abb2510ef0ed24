import java.util.Random;

/** Drawn runs of 512 calls, each answer compared with the model's; the seeds are always the same. */
public final class ModelTest {
    private static final int RUNS = 400;
    private static final Due D = new Due();

    private final Random draw;
    private final GirthReports x = new GirthReports();
    private final Model m = new Model();
    private final int run;
    private int left = 512;

    private ModelTest(int run) {
        this.run = run;
        this.draw = new Random(run);
    }

    public static void main(String[] args) {
        for (int run = 0; run < RUNS; run++) {
            new ModelTest(run).go();
        }
        D.end();
    }

    private void go() {
        if (run % 4 != 0) {
            tell(ball(run % 3 == 0));
        }
        while (left > 0) {
            step();
        }
    }

    private void due(String call, int want, int got) {
        left--;
        D.due("run " + run + ": " + call, want, got);
    }

    /** From low to high, at times one beyond. */
    private int some(int low, int high) {
        int chance = draw.nextInt(40);
        if (chance == 0) {
            return low - 1;
        }
        return chance == 1 ? high + 1 : low + draw.nextInt(high - low + 1);
    }

    private String ball(boolean near) {
        StringBuilder s = new StringBuilder();
        int towns = 2 + draw.nextInt(5);
        if (draw.nextInt(4) > 0) {
            s.append('g').append(1 + draw.nextInt(99)).append(';');
        }
        int base = draw.nextInt(70);
        for (int t = 0; t < towns; t++) {
            s.append('t').append(near ? base + draw.nextInt(10) : draw.nextInt(81));
            s.append(',').append(draw.nextInt(9)).append(';');
        }
        for (int i = draw.nextInt(6); i > 0; i--) {
            int a = draw.nextInt(towns);
            int b = (a + 1 + draw.nextInt(towns - 1)) % towns;
            s.append('r').append(a).append(',').append(b).append(',').append(draw.nextInt(51)).append(';');
        }
        for (int i = 1 + draw.nextInt(4); i > 0; i--) {
            s.append('w').append(draw.nextInt(4)).append(',').append(1 + draw.nextInt(40));
            s.append(',').append(1 + draw.nextInt(9)).append(';');
        }
        return s.toString();
    }

    private String marred(String text) {
        StringBuilder s = new StringBuilder(text);
        String letters = "gtrw0123456789,; ";
        int place = draw.nextInt(s.length());
        char letter = letters.charAt(draw.nextInt(letters.length()));
        switch (draw.nextInt(3)) {
            case 0: s.setCharAt(place, letter); break;
            case 1: s.insert(place, letter); break;
            default: s.deleteCharAt(place); break;
        }
        return s.toString();
    }

    private void tell(String text) {
        due("wipe()", m.wipe(), x.wipe());
        for (int i = 0; i < text.length(); i++) {
            due("write(" + text.charAt(i) + ")", m.write(text.charAt(i)), x.write(text.charAt(i)));
        }
        due("fault() of " + text, m.fault(), x.fault());
        due("lay() of " + text, m.lay(), x.lay());
    }

    private void step() {
        int kind = draw.nextInt(100);
        int a = some(0, m.count(0) - 1);
        int b = some(0, m.count(0) - 1);
        int w = some(0, m.count(1) - 1);
        int r = m.count(3) == 0 ? 0 : some(0, m.count(3) - 1);
        if (kind < 20) {
            due("walk(" + w + ", " + a + ", " + b + ")", m.walk(w, a, b), x.walk(w, a, b));
        } else if (kind < 24) {
            due("strike(" + r + ")", m.strike(r), x.strike(r));
        } else if (kind < 28) {
            due("undo()", m.undo(), x.undo());
        } else if (kind < 30) {
            due("keep()", m.keep(), x.keep());
        } else if (kind < 32) {
            due("back()", m.back(), x.back());
        } else if (kind < 37) {
            see(w, a, b);
        } else if (kind == 37) {
            due("forget()", m.forget(), x.forget());
        } else if (kind == 38) {
            text();
        } else if (kind < 60) {
            askOfBalls(a, b, w, r);
        } else {
            askOfGirths(w, r);
        }
    }

    private void text() {
        if (draw.nextInt(4) == 0) {
            tell(draw.nextInt(3) > 0 ? marred(ball(true)) : ball(true));
        } else {
            int letter = some(32, 126);
            due("write(" + letter + ")", m.write(letter), x.write(letter));
            due("fault()", m.fault(), x.fault());
        }
    }

    private void see(int w, int a, int b) {
        int n = some(0, 9999);
        if (draw.nextInt(4) > 0 && m.walk(w, a, b) >= 0) {
            // what he would tell, as the model has it: both walk, both take it back
            n = m.report(m.count(3) - 1, 3);
            m.undo();
            // the model's trail may be one shorter now; so is the other's
            x.walk(w, a, b);
            x.undo();
            left -= 2;
        }
        due("see(" + w + ", " + a + ", " + b + ", " + n + ")", m.see(w, a, b, n), x.see(w, a, b, n));
        due("fits(" + w + ", 0)", m.fits(w, 0), x.fits(w, 0));
        due("fits(" + w + ", 1)", m.fits(w, 1), x.fits(w, 1));
    }

    private void askOfBalls(int a, int b, int w, int r) {
        int what = some(0, 8);
        due("count(" + what + ")", m.count(what), x.count(what));
        what = some(0, 1);
        due("town(" + a + ", " + what + ")", m.town(a, what), x.town(a, what));
        what = some(0, 2);
        due("between(" + a + ", " + b + ", " + what + ")", m.between(a, b, what), x.between(a, b, what));
        due("walker(" + w + ", " + what + ")", m.walker(w, what), x.walker(w, what));
        what = some(0, 6);
        due("report(" + r + ", " + what + ")", m.report(r, what), x.report(r, what));
        int s = a >= 0 && a < m.count(0) ? m.town(a, 1) + draw.nextInt(5) - 2 : some(0, 90);
        due("towns(" + s + ")", m.towns(s), x.towns(s));
    }

    private void askOfGirths(int w, int r) {
        int what = some(0, 1);
        int e = draw.nextInt(2) == 0 ? some(0, 99) : draw.nextInt(20);
        switch (draw.nextInt(9)) {
            case 0: due("mean()", m.mean(), x.mean()); break;
            case 1:
                what = some(0, 2);
                due("all(" + what + ")", m.all(what), x.all(what));
                break;
            case 2: due("next(" + w + ", " + what + ")", m.next(w, what), x.next(w, what)); break;
            case 3: due("fewest(" + e + ", " + what + ")", m.fewest(e, what), x.fewest(e, what)); break;
            case 4: due("cancel(" + r + ", " + what + ")", m.cancel(r, what), x.cancel(r, what)); break;
            case 5: sail(); break;
            case 6: due("fits(" + w + ", " + what + ")", m.fits(w, what), x.fits(w, what)); break;
            case 7:
                int by = some(0, 10);
                due("miscount(" + e + ", " + by + ", " + what + ")", m.miscount(e, by, what), x.miscount(e, by, what));
                break;
            default:
                int z = some(0, 9999);
                int n = some(1, 40);
                due("year(" + z + ", " + n + ", " + what + ")", m.year(z, n, what), x.year(z, n, what));
                break;
        }
    }

    private void sail() {
        int l = some(1, 360);
        int d = draw.nextInt(2) == 0 ? some(1, 99) : Math.max(1, m.count(2) * l / 36000 + draw.nextInt(3));
        due("sail(" + l + ", " + d + ")", m.sail(l, d), x.sail(l, d));
    }
}
