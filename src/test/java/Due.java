/** Compares answers with those that are due, prints each that differs, and ends a test. */
final class Due {
    private int asked = 0;
    private int wrong = 0;

    void due(String call, long want, long got) {
        asked++;
        if (got != want) {
            wrong++;
            System.out.println(call + " answered " + got + ", due is " + want);
        }
    }

    void holds(String what, boolean so) {
        due(what, 1, so ? 1 : 0);
    }

    void end() {
        System.out.println(asked + " answers, " + wrong + " not as due");
        if (wrong != 0 || asked == 0) {
            System.exit(1);
        }
    }

    static void write(GirthReports x, String text) {
        for (int i = 0; i < text.length(); i++) {
            x.write(text.charAt(i));
        }
    }

    static GirthReports written(String text) {
        GirthReports x = new GirthReports();
        write(x, text);
        return x;
    }

    /** Fails the test at once if the text can't be laid: nothing behind it would mean a thing. */
    static GirthReports laid(String text) {
        GirthReports x = written(text);
        if (x.lay() < 2) {
            System.out.println("not laid: " + text);
            System.exit(1);
        }
        return x;
    }
}
