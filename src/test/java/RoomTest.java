import java.lang.management.ManagementFactory;

/** All calls live in one room: a call makes no object, and wild arguments make no call throw. */
public final class RoomTest {
    private static final int[] WILD = {
        Integer.MIN_VALUE, -5, -1, 0, 1, 2, 3, 5, 6, 8, 9, 36, 99, 200, 10000, Integer.MAX_VALUE};
    private static final Due D = new Due();

    public static void main(String[] args) {
        wildArguments(new GirthReports());
        GirthReports full = Due.laid("g99;t0,0;t0,8;t80,8;t79,0;t3,3;t4,4;w0,1,1;w1,40,9;w2,3,3;w3,9,9;");
        for (int i = 0; i < 9; i++) {
            full.walk(i % 4, i % 6, (i + 1) % 6);
        }
        wildArguments(full);
        noObjects();
        D.end();
    }

    private static void wildArguments(GirthReports x) {
        int thrown = 0;
        for (int a : WILD) {
            for (int b : WILD) {
                for (int c : WILD) {
                    try {
                        everyCall(x, a, b, c);
                    } catch (RuntimeException e) {
                        thrown++;
                        System.out.println("thrown by " + a + ", " + b + ", " + c + ": " + e);
                    }
                }
            }
        }
        D.due("calls that throw", 0, thrown);
    }

    private static void everyCall(GirthReports x, int a, int b, int c) {
        x.town(a, b);
        x.between(a, b, c);
        x.walker(a, b);
        x.report(a, b);
        x.walk(a, b, c);
        x.strike(a);
        x.undo();
        x.mean();
        x.all(a);
        x.next(a, b);
        x.fewest(a, b);
        x.cancel(a, b);
        x.sail(a, b);
        x.see(a, b, c, a);
        x.fits(a, b);
        x.towns(a);
        x.miscount(a, b, c);
        x.year(a, b, c);
        x.keep();
        x.write(a);
        x.fault();
        x.count(a);
        if (c == 9) {
            x.back();
            x.forget();
            x.wipe();
            x.lay();
        }
    }

    private static void noObjects() {
        GirthReports x = new GirthReports();
        long before = bytesMade();
        long unit = bytesMade() - before;
        before = bytesMade();
        for (int i = 0; i < 2000; i++) {
            everyCall(x, i % 10, i % 4, i % 3);
        }
        long made = bytesMade() - before - unit;
        // some 50,000 calls: a single object of 16 bytes in each hundredth would show
        D.holds("calls make objects: " + made + " bytes", made < 8192);
    }

    private static long bytesMade() {
        return ((com.sun.management.ThreadMXBean) ManagementFactory.getThreadMXBean())
            .getThreadAllocatedBytes(Thread.currentThread().getId());
    }
}
