import java.io.IOException;
import java.nio.file.Files;
import java.nio.file.Path;
import java.util.List;
import java.util.function.Supplier;

/** What the tests share: counts the answers that are not as due, and feeds texts. */
final class Check {
    private final String name;
    private String document;
    private String sentence = "";
    private int wrong;

    Check(String name) {
        this.name = name;
    }

    void due(String call, long got, long want) {
        if (got != want) {
            wrong++;
            System.out.println(name + ": " + sentence + call + " answered " + got + ", due is " + want);
        }
    }

    /** The words of the document that the checks behind this look at: they must stand there. */
    void says(String words) {
        sentence = "";
        if (document == null) {
            document = document();
        }
        due("that the document says '" + words + "'", document.contains(words) ? 1 : 0, 1);
        sentence = "'" + words + "': ";
    }

    private static String document() {
        try {
            return Files.readString(Path.of("../shared/DOC.md"));
        } catch (IOException e) {
            return "";
        }
    }

    /** Two ways to make an object: whatever is asked, it answers alike. Each part is asked of new ones. */
    void alike(String what, Supplier<BucketSheet> one, Supplier<BucketSheet> other) {
        for (int part = 0; part < Portrait.PARTS; part++) {
            alike(what, Portrait.of(one.get(), part), Portrait.of(other.get(), part));
        }
    }

    private void alike(String what, List<String> got, List<String> want) {
        for (int i = 0; i < want.size(); i++) {
            if (!got.get(i).equals(want.get(i))) {
                wrong++;
                System.out.println(name + ": " + sentence + what + ": " + got.get(i) + ", due is " + want.get(i));
                return;
            }
        }
    }

    /** The numbers from least to most are taken, no other one is: BAD. Each is tried on a new object. */
    void bounds(String call, int least, int most, Supplier<BucketSheet> scene, Taking taking) {
        for (int n = least - 2; n <= most + 2; n++) {
            boolean refused = taking.of(scene.get(), n) == BucketSheet.BAD;
            due(call + " refuses " + n, refused ? 1 : 0, n < least || n > most ? 1 : 0);
        }
        int[] far = {Integer.MIN_VALUE, Integer.MIN_VALUE + 1, -1000000, 1000000, Integer.MAX_VALUE - 1, Integer.MAX_VALUE};
        for (int n : far) {
            due(call + " of " + n, taking.of(scene.get(), n), BucketSheet.BAD);
        }
        // numbers whose lowest bits alone are in bounds
        due(call + " of 2^16 more", taking.of(scene.get(), 65536 + least), BucketSheet.BAD);
    }

    /** A call of which one number is looked at. */
    interface Taking {
        long of(BucketSheet x, int n);
    }

    /** A text as feed() takes it, blanks behind it. */
    static long[] eights(String text) {
        long[] eights = new long[(text.length() + 7) / 8];
        for (int i = 0; i < 8 * eights.length; i++) {
            eights[i / 8] = eights[i / 8] << 8 | (i < text.length() ? text.charAt(i) & 255 : ' ');
        }
        return eights;
    }

    /** Feeds a text and cuts it to its length. */
    static void feed(BucketSheet x, String text) {
        for (long v : eights(text)) {
            x.feed(v);
        }
        x.end(text.length());
    }

    static int tell(BucketSheet x, String text) {
        feed(x, text);
        return x.text();
    }

    /** A new object that has been told a text, which must be taken. */
    BucketSheet told(String text) {
        BucketSheet x = new BucketSheet();
        int lines = tell(x, text);
        if (lines < 0) {
            due("text() of " + text, lines, 0);
        }
        return x;
    }

    /** A text that must be refused with a FAULT at a place. */
    void refused(String text, int fault, int place) {
        BucketSheet x = new BucketSheet();
        due("text() of '" + text + "'", tell(x, text), -10 - place);
        due("fault() of '" + text + "'", x.fault(), fault);
        due("count(4) behind '" + text + "'", x.count(4), 0);
    }

    void end() {
        System.out.println(name + ": " + (wrong == 0 ? "all answers are as due" : wrong + " answers are not as due"));
        if (wrong != 0) {
            System.exit(1);
        }
    }
}
