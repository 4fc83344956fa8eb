import java.util.ArrayList;
import java.util.List;

/**
 * All that can be asked of an object, in parts, each for an object of its own (an object has 512 calls): what only text(),
 * back(), reads() show comes in parts that change the object as they ask.
 */
final class Portrait {
    static final int PARTS = 8;
    private final BucketSheet x;
    private final List<String> answers = new ArrayList<>();

    private Portrait(BucketSheet x) {
        this.x = x;
    }

    static List<String> of(BucketSheet x, int part) {
        Portrait p = new Portrait(x);
        switch (part) {
            case 0: p.all(); break;
            case 1: p.image(0); break;
            case 2: p.image(1); break;
            case 3: p.tape(); break;
            default: p.sheet(part - 4); break;
        }
        return p.answers;
    }

    private void put(String call, long answer) {
        answers.add(call + " answered " + answer);
    }

    private void all() {
        told();
        charge();
        for (int what = 0; what < 7; what++) {
            put("count(" + what + ")", x.count(what));
        }
        put("fault()", x.fault());
        put("torn()", x.torn());
    }

    private void told() {
        for (int what = 0; what < 7; what++) {
            put("rule(" + what + ")", x.rule(what));
        }
        for (int w = 0; w < 48; w++) {
            put("well(" + w + ", 2)", x.well(w, 2));
            put("well(" + w + ", 3)", x.well(w, 3));
        }
        for (int i = 0; i < 12; i++) {
            put("words(" + i + ")", x.words(i));
        }
    }

    /** What an IMAGE keeps. */
    private void charge() {
        for (int w = 0; w < 48; w++) {
            put("well(" + w + ", 0)", x.well(w, 0));
            put("well(" + w + ", 1)", x.well(w, 1));
            put("well(" + w + ", 4)", x.well(w, 4));
        }
        for (int c = 0; c < 8; c++) {
            put("line(" + c + ")", x.line(c));
        }
        for (int what = 0; what < 7; what++) {
            put("now(" + what + ")", x.now(what));
        }
    }

    private void image(int i) {
        put("back(" + i + ")", x.back(i));
        charge();
    }

    private void tape() {
        put("text()", x.text());
        put("fault()", x.fault());
        told();
        charge();
    }

    /** Its lane, its length and, as far as they may be LIGHTS, its CELLS. */
    private void sheet(int k) {
        int lane = 0;
        for (int i = 0; i < 3; i++) {
            put("reads(" + k + ", " + i + ", 0, 1)", x.reads(k, i, 0, 1));
            put("torn()", x.torn());
            lane = x.torn() == 3 ? lane : i;
        }
        for (int i = 0; i < 41; i++) {
            put("reads(" + k + ", " + lane + ", " + i + ", 1)", x.reads(k, lane, i, 1));
            put("torn()", x.torn());
        }
        for (int w = 0; w < 48; w++) {
            put("well(" + w + ", 1)", x.well(w, 1));
        }
        put("lay(" + k + ", 0, 0)", x.lay(k, 0, 0));
    }
}
