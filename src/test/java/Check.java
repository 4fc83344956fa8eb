/** What the tests share: counts the answers that are not as due, and feeds texts. */
final class Check {
    private final String name;
    private int wrong;

    Check(String name) {
        this.name = name;
    }

    void due(String call, long got, long want) {
        if (got != want) {
            wrong++;
            System.out.println(name + ": " + call + " answered " + got + ", due is " + want);
        }
    }

    /** Feeds a text and cuts it to its length. */
    static void feed(BucketSheet x, String text) {
        for (int i = 0; i < text.length(); i += 8) {
            long v = 0;
            for (int j = i; j < i + 8; j++) {
                v = v << 8 | (j < text.length() ? text.charAt(j) & 255 : ' ');
            }
            x.feed(v);
        }
        x.end(text.length());
    }

    static int tell(BucketSheet x, String text) {
        feed(x, text);
        return x.text();
    }

    /** A new object that has been told a text, which must be taken. */
    BucketSheet told(String text) {
        BucketSheet x = new BucketSheet();
        int lines = tell(x, text);
        if (lines < 0) {
            due("text() of " + text, lines, 0);
        }
        return x;
    }

    /** A text that must be refused with a FAULT at a place. */
    void refused(String text, int fault, int place) {
        BucketSheet x = new BucketSheet();
        due("text() of '" + text + "'", tell(x, text), -10 - place);
        due("fault() of '" + text + "'", x.fault(), fault);
        due("count(4) behind '" + text + "'", x.count(4), 0);
    }

    void end() {
        System.out.println(name + ": " + (wrong == 0 ? "all answers are as due" : wrong + " answers are not as due"));
        if (wrong != 0) {
            System.exit(1);
        }
    }
}
