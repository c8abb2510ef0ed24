import java.lang.reflect.Constructor;
import java.lang.reflect.Field;
import java.lang.reflect.Method;
import java.lang.reflect.Modifier;
import java.util.Arrays;
import java.util.Set;
import java.util.TreeSet;

/** The public face: the document's constants, constructor and methods, and nothing beside them. */
public final class FaceTest {
    private static final Due D = new Due();

    private static final String[] METHODS = {
        "write/1", "wipe/0", "fault/0", "lay/0", "town/2", "between/3", "walker/2", "report/2", "walk/3", "strike/1",
        "undo/0", "mean/0", "all/1", "next/2", "fewest/2", "cancel/2", "sail/2", "see/4", "forget/0", "fits/2",
        "towns/1", "miscount/3", "year/3", "keep/0", "back/0", "count/1"};

    public static void main(String[] args) throws Exception {
        constants();
        methods();
        classesInside();
        D.end();
    }

    private static void constants() throws Exception {
        D.due("BAD", -1, GirthReports.BAD);
        D.due("NO", -2, GirthReports.NO);
        D.due("FULL", -3, GirthReports.FULL);
        D.due("NONE", -4, GirthReports.NONE);
        Set<String> seen = new TreeSet<>();
        for (Field f : GirthReports.class.getDeclaredFields()) {
            if (!Modifier.isPrivate(f.getModifiers())) {
                seen.add(f.getName());
                D.holds(f + " is public static final int", f.getType() == int.class
                    && f.getModifiers() == (Modifier.PUBLIC | Modifier.STATIC | Modifier.FINAL));
            } else if (Modifier.isStatic(f.getModifiers())) {
                D.holds(f + " is final", Modifier.isFinal(f.getModifiers()));
            }
        }
        D.holds("constants: " + seen, seen.equals(new TreeSet<>(Arrays.asList("BAD", "NO", "FULL", "NONE"))));
    }

    private static void methods() {
        Set<String> seen = new TreeSet<>();
        Set<String> names = new TreeSet<>();
        for (Method m : GirthReports.class.getDeclaredMethods()) {
            if (!Modifier.isPrivate(m.getModifiers())) {
                seen.add(m.getName() + "/" + m.getParameterCount());
                names.add(m.getName());
                D.holds(m + " is public and answers int",
                    m.getModifiers() == Modifier.PUBLIC && m.getReturnType() == int.class);
                for (Class<?> type : m.getParameterTypes()) {
                    D.holds(m + " takes int", type == int.class);
                }
            }
        }
        D.holds("methods: " + seen, seen.equals(new TreeSet<>(Arrays.asList(METHODS))));
        for (Method m : GirthReports.class.getDeclaredMethods()) {
            if (Modifier.isPrivate(m.getModifiers())) {
                D.holds(m + " has a name of its own", !names.contains(m.getName()));
            }
        }
        Constructor<?>[] made = GirthReports.class.getDeclaredConstructors();
        D.holds("one constructor", made.length == 1 && Modifier.isPublic(made[0].getModifiers())
            && made[0].getParameterCount() == 0);
        D.holds("public and final",
            GirthReports.class.getModifiers() == (Modifier.PUBLIC | Modifier.FINAL));
    }

    private static void classesInside() {
        for (Class<?> c : GirthReports.class.getDeclaredClasses()) {
            int m = c.getModifiers();
            D.holds(c + " is static and not public",
                Modifier.isStatic(m) && !Modifier.isPublic(m) && !Modifier.isProtected(m));
        }
    }
}
