import java.math.BigInteger;
import java.util.ArrayDeque;
import java.util.ArrayList;
import java.util.Deque;
import java.util.List;
import java.util.regex.Matcher;
import java.util.regex.Pattern;

/**
 * The document once more, as slowly and plainly as can be and by other means than the class:
 * regular expressions for the text, whole snapshots for what is undone, fractions for chances.
 */
final class Model {
    static final int BAD = -1, NO = -2, FULL = -3, NONE = -4;
    private static final Pattern ITEM = Pattern.compile(
        "g(\\d\\d?);|t(\\d\\d?),(\\d\\d?);|r(\\d\\d?),(\\d\\d?),(\\d\\d?);|w(\\d\\d?),(\\d\\d?),(\\d\\d?);");

    record Town(int lie, int lean) {
        int shadow() {
            return lie + lean < 0 ? 0 : lie + lean;
        }
    }

    record Walker(int kind, int pace, int unit) { }

    record Report(int walker, int from, int to, int stadia) {
        boolean joins(int a, int b) {
            return from == a && to == b || from == b && to == a;
        }
    }

    record State(List<Report> reports, int days) {
        static State none() {
            return new State(List.of(), 0);
        }
    }

    record Sight(int walker, int a, int b, int n) { }

    static final class World {
        int girth = 1440;
        final List<Town> towns = new ArrayList<>();
        final List<Walker> walkers = new ArrayList<>();
        final List<int[]> roads = new ArrayList<>();
        int fault = NONE;
    }

    private String text = "";
    private World world = read("g36;t24,4;t31,5;t38,4;t60,2;r0,1,6;r1,2,15;r0,2,10;r2,3,30;"
        + "w0,20,9;w1,25,8;w2,15,9;w3,30,5;");
    private State state = State.none();
    private final Deque<State> undone = new ArrayDeque<>();
    private final Deque<State> kept = new ArrayDeque<>();
    private final List<Sight> sights = new ArrayList<>();

    static World read(String text) {
        World w = new World();
        Matcher m = ITEM.matcher(text);
        int place = 0;
        while (place < text.length()) {
            m.region(place, text.length());
            if (!m.lookingAt() || !takes(w, m)) {
                w.fault = place;
                return w;
            }
            place = m.end();
        }
        return w;
    }

    private static boolean takes(World w, Matcher m) {
        List<Integer> n = new ArrayList<>();
        for (int g = 1; g <= m.groupCount(); g++) {
            if (m.group(g) != null) {
                n.add(Integer.parseInt(m.group(g)));
            }
        }
        switch (m.group().charAt(0)) {
            case 'g':
                w.girth = 40 * n.get(0);
                return n.get(0) >= 1;
            case 't':
                w.towns.add(new Town(n.get(0), n.get(1) - 4));
                return w.towns.size() <= 6 && n.get(0) <= 80 && n.get(1) <= 8;
            case 'r':
                w.roads.add(0, new int[] {n.get(0), n.get(1), n.get(2)});
                return !n.get(0).equals(n.get(1)) && n.get(0) < w.towns.size() && n.get(1) < w.towns.size()
                    && n.get(2) <= 50;
            default:
                w.walkers.add(new Walker(n.get(0), n.get(1), n.get(2)));
                return w.walkers.size() <= 4 && n.get(0) <= 3 && n.get(1) >= 1 && n.get(1) <= 40
                    && n.get(2) >= 1 && n.get(2) <= 9;
        }
    }

    private boolean isTown(int t) {
        return t >= 0 && t < world.towns.size();
    }

    private boolean pair(int a, int b) {
        return isTown(a) && isTown(b) && a != b;
    }

    private boolean isWalker(int w) {
        return w >= 0 && w < world.walkers.size();
    }

    private boolean isReport(int r) {
        return r >= 0 && r < state.reports().size();
    }

    private int straight(int a, int b) {
        return world.girth * Math.abs(world.towns.get(a).lie() - world.towns.get(b).lie()) / 360;
    }

    private int road(int a, int b) {
        int longer = 10;
        for (int[] r : world.roads) {
            if (r[0] == a && r[1] == b || r[0] == b && r[1] == a) {
                longer = r[2];
                break;
            }
        }
        return straight(a, b) * (100 + longer) / 100;
    }

    private int apart(int a, int b) {
        return Math.abs(world.towns.get(a).shadow() - world.towns.get(b).shadow());
    }

    private static int tell(int kind, int unit, int miles) {
        int exact = miles * 10 / unit;
        if (kind == 1) {
            return (exact + 5) / 10 * 10;
        }
        return kind == 2 ? exact * 9 / 10 : exact;
    }

    private int tell(State s, int w, Walker as, int a, int b) {
        if (as.kind() == 3) {
            for (int i = s.reports().size(); i > 0; i--) {
                Report r = s.reports().get(i - 1);
                if (r.walker() != w && r.joins(a, b)) {
                    return r.stadia();
                }
            }
        }
        return tell(as.kind(), as.unit(), road(a, b));
    }

    private int girth(int w, int stadia, int degrees) {
        return degrees <= 0 ? NONE : stadia * world.walkers.get(w).unit() * 36 / degrees;
    }

    private int girth(Report r, int more) {
        return girth(r.walker(), r.stadia(), apart(r.from(), r.to()) + more);
    }

    private int mean(List<Report> of) {
        int[] have = of.stream().mapToInt(r -> girth(r, 0)).filter(g -> g != NONE).toArray();
        int sum = 0;
        for (int g : have) {
            sum += g;
        }
        return have.length == 0 ? NONE : sum / have.length;
    }

    private boolean near(int mean, int e) {
        return mean != NONE && Math.abs(mean - world.girth) * 100L <= (long) e * world.girth;
    }

    private State walked(State s, int w, int a, int b) {
        List<Report> more = new ArrayList<>(s.reports());
        more.add(new Report(w, a, b, tell(s, w, world.walkers.get(w), a, b)));
        return new State(more, s.days() + road(a, b) / world.walkers.get(w).pace() + 1);
    }

    private static State struck(State s, int r) {
        List<Report> fewer = new ArrayList<>(s.reports());
        fewer.remove(r);
        return new State(fewer, s.days());
    }

    private void change(State to) {
        undone.addLast(state);
        if (undone.size() > 8) {
            undone.removeFirst();
        }
        state = to;
    }

    int write(int letter) {
        if (letter < 32 || letter > 126) {
            return BAD;
        }
        if (text.length() == 200) {
            return FULL;
        }
        text += (char) letter;
        return text.length();
    }

    int wipe() {
        int was = text.length();
        text = "";
        return was;
    }

    int fault() {
        return read(text).fault;
    }

    int lay() {
        World w = read(text);
        if (w.fault != NONE || w.towns.size() < 2 || w.walkers.isEmpty()) {
            return NO;
        }
        world = w;
        state = State.none();
        undone.clear();
        kept.clear();
        sights.clear();
        return w.towns.size();
    }

    int town(int t, int what) {
        if (!isTown(t) || what < 0 || what > 1) {
            return BAD;
        }
        return what == 0 ? world.towns.get(t).lie() : world.towns.get(t).shadow();
    }

    int between(int a, int b, int what) {
        if (!pair(a, b) || what < 0 || what > 2) {
            return BAD;
        }
        return what == 0 ? straight(a, b) : what == 1 ? road(a, b) : apart(a, b);
    }

    int walker(int w, int what) {
        if (!isWalker(w) || what < 0 || what > 2) {
            return BAD;
        }
        Walker x = world.walkers.get(w);
        return what == 0 ? x.kind() : what == 1 ? x.pace() : x.unit();
    }

    int report(int r, int what) {
        if (!isReport(r) || what < 0 || what > 6) {
            return BAD;
        }
        Report x = state.reports().get(r);
        int[] told = {x.walker(), x.from(), x.to(), x.stadia(), girth(x, 0), girth(x, 2), girth(x, -2)};
        return told[what];
    }

    int walk(int w, int a, int b) {
        if (!isWalker(w) || !pair(a, b)) {
            return BAD;
        }
        if (state.reports().size() == 9) {
            return FULL;
        }
        change(walked(state, w, a, b));
        return state.reports().get(state.reports().size() - 1).stadia();
    }

    int strike(int r) {
        if (!isReport(r)) {
            return BAD;
        }
        change(struck(state, r));
        return state.reports().size();
    }

    int undo() {
        if (undone.isEmpty()) {
            return NO;
        }
        state = undone.removeLast();
        return undone.size();
    }

    int mean() {
        return mean(state.reports());
    }

    int all(int what) {
        if (what < 0 || what > 2) {
            return BAD;
        }
        List<Report> have = new ArrayList<>(state.reports());
        have.removeIf(r -> girth(r, -2) == NONE);
        if (have.isEmpty()) {
            return NONE;
        }
        int least = have.stream().mapToInt(r -> girth(r, 2)).max().getAsInt();
        int most = have.stream().mapToInt(r -> girth(r, -2)).min().getAsInt();
        return what == 0 ? least : what == 1 ? most : least > most ? 1 : 0;
    }

    int next(int w, int what) {
        if (!isWalker(w) || what < 0 || what > 1) {
            return BAD;
        }
        int[] best = null;
        for (int ab = 1; ab < 56; ab++) {
            int a = ab / 10;
            int b = ab % 10;
            if (a < b && pair(a, b) && apart(a, b) > 2) {
                int n = tell(state, w, world.walkers.get(w), a, b);
                int wide = girth(w, n, apart(a, b) - 2) - girth(w, n, apart(a, b) + 2);
                if (best == null || wide < best[1]) {
                    best = new int[] {ab, wide};
                }
            }
        }
        return best == null ? NONE : best[what];
    }

    int fewest(int e, int what) {
        if (e < 0 || e > 99 || what < 0 || what > 1) {
            return BAD;
        }
        int best = NONE;
        for (int set = (1 << state.reports().size()) - 1; set > 0; set--) {
            List<Report> of = new ArrayList<>();
            for (int r = 0; r < state.reports().size(); r++) {
                if ((set >> r) % 2 == 1) {
                    of.add(state.reports().get(r));
                }
            }
            boolean fewer = best == NONE || of.size() <= Integer.bitCount(best);
            if (of.size() <= 4 && fewer && near(mean(of), e)) {
                best = set;
            }
        }
        return best == NONE ? NONE : what == 0 ? Integer.bitCount(best) : best;
    }

    int cancel(int r, int what) {
        if (!isReport(r) || what < 0 || what > 1) {
            return BAD;
        }
        Report x = state.reports().get(r);
        if (girth(x, 0) == NONE) {
            return NONE;
        }
        int is = Math.abs(girth(x, 0) - world.girth);
        int best = is;
        int bits = 0;
        Walker w = world.walkers.get(x.walker());
        for (int set = 1; set <= 7; set++) {
            int miles = set % 2 == 1 ? straight(x.from(), x.to()) : road(x.from(), x.to());
            int degrees = set / 2 % 2 == 1
                ? Math.abs(world.towns.get(x.from()).lie() - world.towns.get(x.to()).lie())
                : apart(x.from(), x.to());
            int n = set >= 4 ? tell(0, w.unit(), miles) : w.kind() == 3 ? x.stadia() : tell(w.kind(), w.unit(), miles);
            int g = girth(x.walker(), n, degrees);
            if (g != NONE) {
                int off = Math.abs(g - world.girth);
                bits += off < is ? 1 << set : 0;
                best = Math.min(best, off);
            }
        }
        return what == 0 ? bits : best;
    }

    int sail(int l, int d) {
        if (l < 1 || l > 360 || d < 1 || d > 99) {
            return BAD;
        }
        if (mean() == NONE) {
            return NONE;
        }
        boolean dares = (long) mean() * l / 360 <= d * 100L;
        boolean comes = (long) world.girth * l / 360 <= d * 100L;
        return !dares ? 0 : comes ? 2 : 1;
    }

    int see(int w, int a, int b, int n) {
        if (!isWalker(w) || !pair(a, b) || n < 0 || n > 9999) {
            return BAD;
        }
        if (sights.size() == 6) {
            return FULL;
        }
        sights.add(new Sight(w, a, b, n));
        return sights.size();
    }

    int forget() {
        int were = sights.size();
        sights.clear();
        return were;
    }

    int fits(int w, int what) {
        if (!isWalker(w) || what < 0 || what > 1) {
            return BAD;
        }
        Walker is = world.walkers.get(w);
        int bits = 0;
        for (int i = what == 0 ? 1 : 0; i <= (what == 0 ? 9 : 3); i++) {
            Walker as = what == 0 ? new Walker(is.kind(), 1, i) : new Walker(i, 1, is.unit());
            if (sights.stream().allMatch(s -> s.walker() != w || tell(state, w, as, s.a(), s.b()) == s.n())) {
                bits |= 1 << i;
            }
        }
        return bits;
    }

    int towns(int s) {
        if (s < 0 || s > 90) {
            return BAD;
        }
        int bits = 0;
        for (int t = 0; t < world.towns.size(); t++) {
            int off = world.towns.get(t).shadow() - s;
            bits |= off >= -1 && off <= 1 ? 1 << t : 0;
        }
        return bits;
    }

    int miscount(int e, int x, int part) {
        if (e < 0 || e > 99 || x < 0 || x > 10 || part < 0 || part > 1) {
            return BAD;
        }
        BigInteger above = ways(new ArrayList<>(), e, x);
        BigInteger below = BigInteger.TEN.pow(state.reports().size());
        BigInteger shared = above.gcd(below);
        return (part == 0 ? above : below).divide(shared).intValueExact();
    }

    private BigInteger ways(List<Report> told, int e, int x) {
        if (told.size() == state.reports().size()) {
            return near(mean(told), e) ? BigInteger.ONE : BigInteger.ZERO;
        }
        Report r = state.reports().get(told.size());
        Report less = new Report(r.walker(), r.from(), r.to(), r.stadia() * 9 / 10);
        List<Report> so = new ArrayList<>(told);
        so.add(less);
        BigInteger sum = ways(so, e, x).multiply(BigInteger.valueOf(x));
        so.set(so.size() - 1, r);
        return sum.add(ways(so, e, x).multiply(BigInteger.valueOf(10 - x)));
    }

    int year(int z, int n, int what) {
        if (z < 0 || z > 9999 || n < 1 || n > 40 || what < 0 || what > 1) {
            return BAD;
        }
        State s = state;
        for (int k = 0; k < n; k++) {
            BigInteger x = BigInteger.valueOf(7919L * z + 6151L * k + 1);
            int draw = x.multiply(x).mod(BigInteger.valueOf(65521)).intValueExact();
            int a = draw / 4 % world.towns.size();
            int b = draw / 32 % world.towns.size();
            if (a != b) {
                s = s.reports().size() == 9 ? struck(s, 0) : s;
                s = walked(s, draw % world.walkers.size(), a, b);
            }
        }
        return what == 0 ? mean(s.reports()) : s.days() - state.days();
    }

    int keep() {
        if (kept.size() == 2) {
            return FULL;
        }
        kept.addLast(state);
        return kept.size();
    }

    int back() {
        if (kept.isEmpty()) {
            return NO;
        }
        state = kept.removeLast();
        undone.clear();
        return kept.size();
    }

    int count(int what) {
        int[] many = {world.towns.size(), world.walkers.size(), world.girth, state.reports().size(), state.days(),
            sights.size(), undone.size(), kept.size(), text.length()};
        return what < 0 || what >= many.length ? BAD : many[what];
    }
}
