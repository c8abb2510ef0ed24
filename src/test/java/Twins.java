import java.util.ArrayList;
import java.util.List;
import java.util.function.Consumer;
import java.util.function.Function;
import java.util.function.Supplier;
import java.util.function.ToIntFunction;

/**
 * Two objects with the same past: what a call changes is what tells them apart afterwards. Each way
 * of looking has two new objects, as most of them change what they look at, and so that none is asked
 * more often than the document allows.
 */
final class Twins {
    private static final int NO = -2, FULL = -3;
    private static final List<Function<GirthReports, List<Integer>>> LOOKS =
        List.of(Twins::all, Twins::undoing, Twins::goingBack, Twins::laying, Twins::forgetting, Twins::filling);

    private Twins() {
    }

    /** The call answers what is due, and changes nothing. */
    static void unchanged(Due d, String call, int due, Supplier<GirthReports> past, ToIntFunction<GirthReports> asked) {
        d.due(call, due, asked.applyAsInt(past.get()));
        alike(d, call + " changes nothing", past, past, asked::applyAsInt);
    }

    /** What comes of one past is what comes of another one and a call behind it. */
    static void alike(Due d, String what, Supplier<GirthReports> one, Supplier<GirthReports> other,
            Consumer<GirthReports> behind) {
        for (Function<GirthReports, List<Integer>> look : LOOKS) {
            GirthReports x = other.get();
            behind.accept(x);
            d.holds(what, look.apply(one.get()).equals(look.apply(x)));
        }
    }

    private static List<Integer> all(GirthReports x) {
        List<Integer> seen = new ArrayList<>();
        for (int what = 0; what <= 8; what++) {
            seen.add(x.count(what));
        }
        for (int a = 0; a < x.count(0); a++) {
            seen.add(x.town(a, 0));
            seen.add(x.town(a, 1));
            for (int b = 0; b < a; b++) {
                seen.add(x.between(a, b, 1));
            }
        }
        for (int w = 0; w < x.count(1); w++) {
            for (int what = 0; what < 3; what++) {
                seen.add(x.walker(w, what));
            }
            seen.add(x.next(w, 1));
            seen.add(x.fits(w, 0));
            seen.add(x.fits(w, 1));
        }
        seen.addAll(reports(x));
        seen.add(x.mean());
        seen.add(x.fault());
        return seen;
    }

    private static List<Integer> reports(GirthReports x) {
        List<Integer> seen = new ArrayList<>();
        seen.add(x.count(4));
        int many = x.count(3);
        for (int r = 0; r < many; r++) {
            for (int what = 0; what < 4; what++) {
                seen.add(x.report(r, what));
            }
        }
        return seen;
    }

    private static List<Integer> undoing(GirthReports x) {
        List<Integer> seen = new ArrayList<>();
        for (int i = 0, left = 0; i < 10 && left != NO; i++) {
            left = x.undo();
            seen.add(left);
            seen.add(x.count(3));
            seen.add(x.count(4));
            seen.add(x.mean());
        }
        seen.addAll(reports(x));
        return seen;
    }

    private static List<Integer> goingBack(GirthReports x) {
        List<Integer> seen = new ArrayList<>();
        for (int i = 0, left = 0; i < 4 && left != NO; i++) {
            left = x.back();
            seen.add(left);
            seen.add(x.count(6));
            seen.addAll(reports(x));
        }
        return seen;
    }

    private static List<Integer> laying(GirthReports x) {
        List<Integer> seen = new ArrayList<>();
        seen.add(x.lay());
        seen.addAll(all(x));
        seen.add(x.wipe());
        return seen;
    }

    private static List<Integer> forgetting(GirthReports x) {
        List<Integer> seen = new ArrayList<>();
        seen.add(x.forget());
        seen.add(x.fits(0, 0));
        return seen;
    }

    private static List<Integer> filling(GirthReports x) {
        List<Integer> seen = new ArrayList<>();
        for (int i = 0, told = 0; i < 10 && told != FULL; i++) {
            told = x.walk(0, 0, 1);
            seen.add(told);
        }
        for (int i = 0, many = 0; i < 7 && many != FULL; i++) {
            many = x.see(0, 0, 1, 32);
            seen.add(many);
        }
        for (int i = 0, kept = 0; i < 3 && kept != FULL; i++) {
            kept = x.keep();
            seen.add(kept);
        }
        seen.addAll(reports(x));
        return seen;
    }
}
