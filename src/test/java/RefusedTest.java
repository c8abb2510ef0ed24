import java.util.ArrayList;
import java.util.List;
import java.util.function.Supplier;
import java.util.function.ToIntFunction;

/**
 * Of several answers the first, and nothing changes then: every call that is refused, and every question,
 * asked of an object that holds nothing, of one that holds something, and of one that is full.
 */
public final class RefusedTest {
    private static final int BAD = -1, NO = -2, FULL = -3, NONE = -4;
    private static final int MIN = Integer.MIN_VALUE, MAX = Integer.MAX_VALUE;
    private static final Due D = new Due();

    private record Call(String name, int due, ToIntFunction<GirthReports> asked) { }

    public static void main(String[] args) {
        D.sentence("BAD: a number is none that is told (TOWNS, WALKERS, REPORTS: such as there are).");
        refused("empty", RefusedTest::empty, bad());
        refused("busy", RefusedTest::busy, bad());
        D.sentence("NO: not as things stand.");
        refused("empty", RefusedTest::empty, notAsThingsStand());
        refused("full", RefusedTest::full, List.of(new Call("lay()", NO, GirthReports::lay)));
        D.sentence("NONE: there is none.");
        refused("empty", RefusedTest::empty, thereIsNone());
        D.sentence("FULL.");
        int[] counts = {4, 4, 1440, 9, 57, 6, 8, 2, 200};
        for (int what = 0; what < counts.length; what++) {
            D.due("full: count(" + what + ")", counts[what], full().count(what));
        }
        refused("full", RefusedTest::full, noRoom());
        D.sentence("Of several the first; nothing changes then.");
        refused("full", RefusedTest::full, bad());
        D.sentence("Nothing is promised beyond the answers and state changes described above");
        questions("busy", RefusedTest::busy);
        questions("full", RefusedTest::full);
        D.end();
    }

    private static GirthReports empty() {
        return new GirthReports();
    }

    /** Four reports of nine, three that can be undone since what is kept was taken back, two seen, half a text. */
    private static GirthReports busy() {
        GirthReports x = new GirthReports();
        Due.walk(x, new int[][] {{0, 0, 1}, {1, 2, 3}, {2, 3, 0}});
        x.keep();
        x.keep();
        x.back();
        x.walk(3, 1, 2);
        x.walk(3, 0, 3);
        x.strike(1);
        x.see(0, 0, 1, 32);
        x.see(3, 0, 3, 157);
        Due.write(x, "g5;t10,4;t2");
        return x;
    }

    private static GirthReports full() {
        GirthReports x = new GirthReports();
        Due.walk(x, new int[][] {{0, 0, 1}, {1, 2, 3}, {2, 3, 0}});
        x.keep();
        Due.walk(x, new int[][] {{3, 1, 2}, {3, 0, 3}, {0, 1, 3}});
        x.strike(2);
        x.keep();
        Due.walk(x, new int[][] {{0, 0, 1}, {1, 2, 3}, {2, 3, 0}, {3, 3, 0}});
        for (int i = 0; i < 6; i++) {
            x.see(i % 4, 0, 1, 32);
        }
        Due.write(x, "t10,4;t20,4;w0,10,1;" + "g1;".repeat(59) + "g2.");
        return x;
    }

    private static void refused(String of, Supplier<GirthReports> past, List<Call> calls) {
        for (Call call : calls) {
            Twins.unchanged(D, of + ": " + call.name, call.due, past, call.asked);
        }
    }

    private static List<Call> bad() {
        List<Call> calls = new ArrayList<>();
        for (int n : new int[] {MIN, -1, 9, MAX}) {
            calls.add(new Call("town(" + n + ", 0)", BAD, x -> x.town(n, 0)));
            calls.add(new Call("between(0, " + n + ", 0)", BAD, x -> x.between(0, n, 0)));
            calls.add(new Call("walker(" + n + ", 0)", BAD, x -> x.walker(n, 0)));
            calls.add(new Call("report(" + n + ", 0)", BAD, x -> x.report(n, 0)));
            calls.add(new Call("walk(" + n + ", 0, 1)", BAD, x -> x.walk(n, 0, 1)));
            calls.add(new Call("walk(0, " + n + ", 1)", BAD, x -> x.walk(0, n, 1)));
            calls.add(new Call("walk(0, 0, " + n + ")", BAD, x -> x.walk(0, 0, n)));
            calls.add(new Call("strike(" + n + ")", BAD, x -> x.strike(n)));
            calls.add(new Call("all(" + n + ")", BAD, x -> x.all(n)));
            calls.add(new Call("next(" + n + ", 0)", BAD, x -> x.next(n, 0)));
            calls.add(new Call("next(0, " + n + ")", BAD, x -> x.next(0, n)));
            calls.add(new Call("fewest(5, " + n + ")", BAD, x -> x.fewest(5, n)));
            calls.add(new Call("cancel(" + n + ", 0)", BAD, x -> x.cancel(n, 0)));
            calls.add(new Call("cancel(0, " + n + ")", BAD, x -> x.cancel(0, n)));
            calls.add(new Call("see(" + n + ", 0, 1, 5)", BAD, x -> x.see(n, 0, 1, 5)));
            calls.add(new Call("see(0, " + n + ", 1, 5)", BAD, x -> x.see(0, n, 1, 5)));
            calls.add(new Call("see(0, 0, " + n + ", 5)", BAD, x -> x.see(0, 0, n, 5)));
            calls.add(new Call("fits(" + n + ", 0)", BAD, x -> x.fits(n, 0)));
            calls.add(new Call("fits(0, " + n + ")", BAD, x -> x.fits(0, n)));
            calls.add(new Call("miscount(5, 5, " + n + ")", BAD, x -> x.miscount(5, 5, n)));
            calls.add(new Call("year(5, 5, " + n + ")", BAD, x -> x.year(5, 5, n)));
            calls.add(new Call("count(" + n + ")", BAD, x -> x.count(n)));
        }
        calls.add(new Call("write(31)", BAD, x -> x.write(31)));
        calls.add(new Call("write(127)", BAD, x -> x.write(127)));
        calls.add(new Call("between(1, 1, 0)", BAD, x -> x.between(1, 1, 0)));
        calls.add(new Call("walk(0, 1, 1)", BAD, x -> x.walk(0, 1, 1)));
        calls.add(new Call("walk(4, 0, 1)", BAD, x -> x.walk(4, 0, 1)));
        calls.add(new Call("walk(0, 0, 4)", BAD, x -> x.walk(0, 0, 4)));
        calls.add(new Call("fewest(100, 0)", BAD, x -> x.fewest(100, 0)));
        calls.add(new Call("sail(0, 5)", BAD, x -> x.sail(0, 5)));
        calls.add(new Call("sail(361, 5)", BAD, x -> x.sail(361, 5)));
        calls.add(new Call("sail(5, 0)", BAD, x -> x.sail(5, 0)));
        calls.add(new Call("sail(5, 100)", BAD, x -> x.sail(5, 100)));
        calls.add(new Call("see(0, 1, 1, 5)", BAD, x -> x.see(0, 1, 1, 5)));
        calls.add(new Call("see(0, 0, 1, -1)", BAD, x -> x.see(0, 0, 1, -1)));
        calls.add(new Call("see(0, 0, 1, 10000)", BAD, x -> x.see(0, 0, 1, 10000)));
        calls.add(new Call("towns(91)", BAD, x -> x.towns(91)));
        calls.add(new Call("miscount(100, 5, 0)", BAD, x -> x.miscount(100, 5, 0)));
        calls.add(new Call("miscount(5, 11, 0)", BAD, x -> x.miscount(5, 11, 0)));
        calls.add(new Call("year(10000, 5, 0)", BAD, x -> x.year(10000, 5, 0)));
        calls.add(new Call("year(5, 0, 0)", BAD, x -> x.year(5, 0, 0)));
        calls.add(new Call("year(5, 41, 0)", BAD, x -> x.year(5, 41, 0)));
        return calls;
    }

    private static List<Call> notAsThingsStand() {
        return List.of(
            new Call("lay()", NO, GirthReports::lay),
            new Call("undo()", NO, GirthReports::undo),
            new Call("back()", NO, GirthReports::back));
    }

    private static List<Call> thereIsNone() {
        return List.of(
            new Call("fault()", NONE, GirthReports::fault),
            new Call("mean()", NONE, GirthReports::mean),
            new Call("all(0)", NONE, x -> x.all(0)),
            new Call("all(1)", NONE, x -> x.all(1)),
            new Call("all(2)", NONE, x -> x.all(2)),
            new Call("fewest(99, 0)", NONE, x -> x.fewest(99, 0)),
            new Call("fewest(99, 1)", NONE, x -> x.fewest(99, 1)),
            new Call("sail(1, 99)", NONE, x -> x.sail(1, 99)),
            new Call("year(0, 1, 0)", NONE, x -> x.year(0, 1, 0)));
    }

    private static List<Call> noRoom() {
        return List.of(
            new Call("write(32)", FULL, x -> x.write(32)),
            new Call("walk(0, 0, 1)", FULL, x -> x.walk(0, 0, 1)),
            new Call("walk(3, 3, 0)", FULL, x -> x.walk(3, 3, 0)),
            new Call("see(0, 0, 1, 32)", FULL, x -> x.see(0, 0, 1, 32)),
            new Call("keep()", FULL, GirthReports::keep));
    }

    /** What the calls that only tell something answer stands in other tests; here, that they only tell it. */
    private static void questions(String of, Supplier<GirthReports> past) {
        List<Call> calls = List.of(
            new Call("fault()", 0, GirthReports::fault),
            new Call("mean()", 0, GirthReports::mean),
            new Call("all(2)", 0, x -> x.all(2)),
            new Call("next(3, 0)", 0, x -> x.next(3, 0)),
            new Call("fewest(5, 1)", 0, x -> x.fewest(5, 1)),
            new Call("cancel(1, 0)", 0, x -> x.cancel(1, 0)),
            new Call("sail(100, 5)", 0, x -> x.sail(100, 5)),
            new Call("fits(3, 1)", 0, x -> x.fits(3, 1)),
            new Call("towns(24)", 0, x -> x.towns(24)),
            new Call("miscount(5, 5, 0)", 0, x -> x.miscount(5, 5, 0)),
            new Call("year(5, 40, 0)", 0, x -> x.year(5, 40, 0)),
            new Call("year(5, 40, 1)", 0, x -> x.year(5, 40, 1)));
        for (Call call : calls) {
            Twins.alike(D, of + ": " + call.name + " changes nothing", past, past, call.asked::applyAsInt);
        }
    }
}
