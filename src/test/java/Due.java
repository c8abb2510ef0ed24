/** Compares answers with those that are due, prints each that differs, and ends a test. */
final class Due {
    private int asked = 0;
    private int wrong = 0;
    private int sentences = 0;
    private int askedBefore = 0;
    private String sentence = "";

    /** What follows tests these words of the document, until other words are told. */
    void sentence(String words) {
        closeSentence();
        sentence = words;
        sentences++;
        askedBefore = asked;
    }

    /** A sentence without a single answer behind it would be one that nothing tests. */
    private void closeSentence() {
        if (!sentence.isEmpty() && asked == askedBefore) {
            wrong++;
            System.out.println("nothing tests \"" + sentence + "\"");
        }
    }

    void due(String call, long want, long got) {
        asked++;
        if (got != want) {
            wrong++;
            String of = sentence.isEmpty() ? "" : "\"" + sentence + "\": ";
            System.out.println(of + call + " answered " + got + ", due is " + want);
        }
    }

    void holds(String what, boolean so) {
        due(what, 1, so ? 1 : 0);
    }

    void end() {
        closeSentence();
        String of = sentences == 0 ? "" : " to " + sentences + " sentences";
        System.out.println(asked + " answers" + of + ", " + wrong + " not as due");
        if (wrong != 0 || asked == 0) {
            System.exit(1);
        }
    }

    static void write(GirthReports x, String text) {
        for (int i = 0; i < text.length(); i++) {
            x.write(text.charAt(i));
        }
    }

    static GirthReports written(String text) {
        GirthReports x = new GirthReports();
        write(x, text);
        return x;
    }

    /** Fails the test at once if the text can't be laid: nothing behind it would mean a thing. */
    static GirthReports laid(String text) {
        GirthReports x = written(text);
        if (x.lay() < 2) {
            System.out.println("not laid: " + text);
            System.exit(1);
        }
        return x;
    }

    static void walk(GirthReports x, int[]... walks) {
        for (int[] w : walks) {
            x.walk(w[0], w[1], w[2]);
        }
    }

    static void walk(GirthReports x, int times, int w, int a, int b) {
        for (int i = 0; i < times; i++) {
            x.walk(w, a, b);
        }
    }
}
