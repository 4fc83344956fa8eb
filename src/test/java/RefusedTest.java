/**
 * "What is refused changes nothing", call by call: of two objects made alike one is asked what it refuses, then all that can
 * be asked of both is alike. Calls that only ask are looked at in the same way.
 */
public final class RefusedTest {
    private static final Check CHECK = new Check("RefusedTest");
    private static final int MIN = Integer.MIN_VALUE, MAX = Integer.MAX_VALUE;
    private static final int BAD = BucketSheet.BAD, STATE = BucketSheet.STATE, FULL = BucketSheet.FULL, NONE = BucketSheet.NONE;

    public static void main(String[] args) {
        CHECK.says("what is refused changes nothing (but THE TAPE, as told).");
        theText();
        charge();
        picture();
        howLong();
        gates();
        images();
        sheets();
        reads();
        newObjects();
        theFirstThatFits();
        asking();
        CHECK.end();
    }

    private interface Call {
        long on(BucketSheet x);
    }

    /** Something of all: CHARGE everywhere, one IMAGE, three SHEETS, a FAULT, something torn, bytes on THE TAPE. */
    private static BucketSheet scene() {
        BucketSheet x = CHECK.told("cap 40;dark 1;smear 2;gain 3 2;phases 4;hot 9 7;hot 47 3;trap 16 9;trap 33 5;trap 40 6;"
            + "row 5 0 9 0 30 1 0 2;row 0 8 0 0 0 0 50 0;row 1 1 1 1 1 1 1 1;clock 7 12 11;");
        x.expose(2);
        for (int i = 0; i < 3; i++) {
            x.down();
        }
        x.read();
        x.keep(0);
        x.light(20, 33);
        x.expose(1);
        x.down();
        x.read();
        int[] cells = {5, 6, 7, 8, 48, 1, 3};
        for (int k = 0; k < 3; k++) {
            x.sheet(k, k, cells.length);
            for (int i = 0; i < cells.length; i++) {
                x.lay(k, i, cells[i] + k);
            }
        }
        Check.tell(x, "dark 3;drain 3;");
        x.reads(0, 2, 0, 1);
        Check.feed(x, "dark 4;hot 3 3;");
        return x;
    }

    /** THE TAPE and THE ROUND are full, both IMAGES are there. */
    private static BucketSheet fullScene() {
        BucketSheet x = scene();
        x.keep(1);
        for (int i = 3; i < 12; i++) {
            x.word(7 + i % 2);
        }
        x.end(0);
        Check.feed(x, "cap 77;" + " ".repeat(393));
        CHECK.due("the tape is full", x.count(4), 400);
        CHECK.due("the round is full", x.count(2), 12);
        return x;
    }

    private static void refused(String name, long want, Call call) {
        for (int scene = 0; scene < 2; scene++) {
            boolean full = scene == 1;
            CHECK.alike(name, () -> {
                BucketSheet x = full ? fullScene() : scene();
                CHECK.due(name, call.on(x), want);
                return x;
            }, () -> full ? fullScene() : scene());
        }
    }

    private static void refusedWhereFull(String name, long want, Call call) {
        CHECK.alike(name, () -> {
            BucketSheet x = fullScene();
            CHECK.due(name, call.on(x), want);
            return x;
        }, RefusedTest::fullScene);
    }

    private static void theText() {
        refusedWhereFull("feed(0)", FULL, x -> x.feed(0));
        refusedWhereFull("feed(-1)", FULL, x -> x.feed(-1));
        refusedWhereFull("feed at 393", FULL, x -> {
            x.end(393);
            long answer = x.feed(0x3b3b3b3b3b3b3b3bL);
            x.end(392);
            x.feed(0x2020202020202020L);
            return answer;
        });
        for (int n : new int[] {-1, MIN, MAX, 401}) {
            refused("end(" + n + ")", BAD, x -> x.end(n));
        }
        refused("end() above its bytes", BAD, x -> x.end(x.count(4) + 1));
        for (int what : new int[] {-1, 7, MIN, MAX}) {
            refused("rule(" + what + ")", BAD, x -> x.rule(what));
        }
        for (int w : new int[] {-1, 48, MIN, MAX}) {
            refused("well(" + w + ", 0)", BAD, x -> x.well(w, 0));
            refused("light(" + w + ", 9)", BAD, x -> x.light(w, 9));
        }
        refused("well(0, -1)", BAD, x -> x.well(0, -1));
        refused("well(0, 5)", BAD, x -> x.well(0, 5));
        for (int v : new int[] {-1, 100, MIN, MAX}) {
            refused("light(0, " + v + ")", BAD, x -> x.light(0, v));
            refused("light(47, " + v + ")", BAD, x -> x.light(47, v));
        }
    }

    private static void charge() {
        for (int t : new int[] {0, -1, 1000, MIN, MAX}) {
            refused("expose(" + t + ")", BAD, x -> x.expose(t));
        }
        for (int n : new int[] {-1, 8, MIN, MAX}) {
            refused("line(" + n + ")", BAD, x -> x.line(n));
            refused("now(" + n + ")", BAD, x -> x.now(n));
        }
        refused("now(7)", BAD, x -> x.now(7));
    }

    private static void picture() {
        for (int n : new int[] {0, -1, 4, MIN, MAX}) {
            refused("picture(" + n + ", 1, 0, 0)", BAD, x -> x.picture(n, 1, 0, 0));
            refused("picture(1, " + n + ", 0, 0)", BAD, x -> x.picture(1, n, 0, 0));
            refused("shades(" + n + ", 1, 0)", BAD, x -> x.shades(n, 1, 0));
            refused("shades(1, " + n + ", 0)", BAD, x -> x.shades(1, n, 0));
        }
        refused("picture(1, 1, 6, 0)", BAD, x -> x.picture(1, 1, 6, 0));
        refused("picture(1, 1, 0, 8)", BAD, x -> x.picture(1, 1, 0, 8));
        refused("picture(1, 1, -1, 0)", BAD, x -> x.picture(1, 1, -1, 0));
        refused("picture(1, 1, 0, -1)", BAD, x -> x.picture(1, 1, 0, -1));
        refused("shades(1, 1, 4)", BAD, x -> x.shades(1, 1, 4));
        refused("late(8)", BAD, x -> x.late(8));
        refused("late(-1)", BAD, x -> x.late(-1));
        refused("smear(48)", BAD, x -> x.smear(48));
        refused("smear(-1)", BAD, x -> x.smear(-1));
        refused("spoiled(2)", BAD, x -> x.spoiled(2));
        refused("spoiled(-1)", BAD, x -> x.spoiled(-1));
    }

    private static void howLong() {
        refused("full(48)", BAD, x -> x.full(48));
        refused("full(-1)", BAD, x -> x.full(-1));
        refused("enough(0)", BAD, x -> x.enough(0));
        refused("enough(1000)", BAD, x -> x.enough(1000));
        refused("enough(999)", NONE, x -> x.enough(999));
        refused("hots(0, 1)", BAD, x -> x.hots(0, 1));
        refused("hots(1000, 1)", BAD, x -> x.hots(1000, 1));
        refused("hots(1, 0)", BAD, x -> x.hots(1, 0));
        refused("hots(1, 10000)", BAD, x -> x.hots(1, 10000));
        refused("mended(48)", BAD, x -> x.mended(48));
        refused("mended(-1)", BAD, x -> x.mended(-1));
    }

    private static void gates() {
        for (int v : new int[] {-1, 16, MIN, MAX}) {
            refused("word(" + v + ")", BAD, x -> x.word(v));
            refused("goes(" + v + ", 1)", BAD, x -> x.goes(v, 1));
            refused("goes(1, " + v + ")", BAD, x -> x.goes(1, v));
            refused("rounds(" + v + ", 1, 0)", BAD, x -> x.rounds(v, 1, 0));
        }
        refusedWhereFull("word(0)", FULL, x -> x.word(0));
        refusedWhereFull("word(15)", FULL, x -> x.word(15));
        for (int i : new int[] {-1, 12, MIN, MAX}) {
            refused("words(" + i + ")", BAD, x -> x.words(i));
        }
        refused("clock(-1)", BAD, x -> x.clock(-1));
        refused("clock(3)", BAD, x -> x.clock(3));
        refused("goes(5, 1)", STATE, x -> x.goes(5, 1));
        refused("fewest(2)", BAD, x -> x.fewest(2));
        refused("fewest(-2)", BAD, x -> x.fewest(-2));
        refused("rounds(1, 0, 0)", BAD, x -> x.rounds(1, 0, 0));
        refused("rounds(1, 13, 0)", BAD, x -> x.rounds(1, 13, 0));
        refused("rounds(1, 1, 4)", BAD, x -> x.rounds(1, 1, 4));
        refused("rounds(1, 1, -4)", BAD, x -> x.rounds(1, 1, -4));
        // of 3 phases, and with a first WORD that is not good
        CHECK.alike("of 3 phases", () -> {
            BucketSheet x = CHECK.told("clock 7 1;");
            CHECK.due("word(8)", x.word(8), BAD);
            CHECK.due("clock(0)", x.clock(0), STATE);
            CHECK.due("clock(2)", x.clock(2), STATE);
            return x;
        }, () -> CHECK.told("clock 7 1;"));
    }

    private static void images() {
        for (int i : new int[] {-1, 2, MIN, MAX}) {
            refused("keep(" + i + ")", BAD, x -> x.keep(i));
            refused("back(" + i + ")", BAD, x -> x.back(i));
        }
        CHECK.alike("back(1)", () -> {
            BucketSheet x = scene();
            CHECK.due("back(1)", x.back(1), STATE);
            return x;
        }, RefusedTest::scene);
    }

    private static void sheets() {
        for (int k : new int[] {-1, 4, MIN, MAX}) {
            refused("sheet(" + k + ", 0, 1)", BAD, x -> x.sheet(k, 0, 1));
            refused("lay(" + k + ", 0, 1)", BAD, x -> x.lay(k, 0, 1));
        }
        for (int k = 0; k < 4; k++) {
            int here = k;
            for (int n : new int[] {41, MAX}) {
                refused("sheet(" + k + ", 0, " + n + ")", BAD, x -> x.sheet(here, 0, n));
            }
            for (int n : new int[] {-1, MIN}) {
                refused("sheet(" + k + ", 1, " + n + ")", -14, x -> x.sheet(here, 1, n));
            }
            for (int lane : new int[] {-1, 3}) {
                refused("sheet(" + k + ", " + lane + ", 1)", BAD, x -> x.sheet(here, lane, 1));
            }
            for (int i : new int[] {-1, 7, MIN, MAX}) {
                refused("lay(" + k + ", " + i + ", 1)", here == 3 ? -11 : -12, x -> x.lay(here, i, 1));
            }
        }
        refused("lay(3, 0, 1)", -11, x -> x.lay(3, 0, 1));
    }

    private static void reads() {
        for (int k : new int[] {-1, 4, MIN, MAX}) {
            refused("reads(" + k + ", 0, 0, 1)", BAD, x -> x.reads(k, 0, 0, 1));
        }
        for (int lane : new int[] {-1, 3, MIN, MAX}) {
            refused("reads(0, " + lane + ", 0, 1)", BAD, x -> x.reads(0, lane, 0, 1));
        }
        for (int n : new int[] {-1, 21, MIN, MAX}) {
            refused("reads(0, 0, 0, " + n + ")", BAD, x -> x.reads(0, 0, 0, n));
        }
        // WELL 48 and on is the third of each SHEET
        for (int k = 0; k < 3; k++) {
            int here = k;
            for (int n : new int[] {3, 20}) {
                refused("reads(" + k + ", " + k + ", 0, " + n + ")", -22, x -> x.reads(here, here, 0, n));
            }
            refused("reads(" + k + ", " + k + ", 4, 1)", -20, x -> x.reads(here, here, 4, 1));
        }
        // what the machine finds with none whole ahead: LIGHT stays (torn() is told as it is here: CAST)
        refused("reads(0, 1, 0, 2)", 0, x -> x.reads(0, 1, 0, 2));
        refused("reads(2, 0, 0, 2)", 0, x -> x.reads(2, 0, 0, 2));
    }

    /** At first there are no WORDS, no IMAGES, no SHEETS. */
    private static void newObjects() {
        CHECK.alike("a new object", () -> {
            BucketSheet x = new BucketSheet();
            CHECK.due("end(1)", x.end(1), BAD);
            CHECK.due("clock(0)", x.clock(0), STATE);
            CHECK.due("clock(1)", x.clock(1), STATE);
            CHECK.due("clock(2)", x.clock(2), STATE);
            CHECK.due("back(0)", x.back(0), STATE);
            CHECK.due("back(1)", x.back(1), STATE);
            CHECK.due("full(0)", x.full(0), NONE);
            CHECK.due("lay(0, 0, 0)", x.lay(0, 0, 0), -11);
            CHECK.due("sheet(0, 0, -1)", x.sheet(0, 0, -1), -14);
            CHECK.due("sheet(0, 0, 41)", x.sheet(0, 0, 41), BAD);
            CHECK.due("word(8)", x.word(8), BAD);
            return x;
        }, BucketSheet::new);
    }

    /** Where two answers would fit: BAD ahead of STATE, FULL, NONE and of what the machine finds. */
    private static void theFirstThatFits() {
        CHECK.says(", the first that fits; what is refused changes nothing");
        refusedWhereFull("word(16) of a full round", BAD, x -> x.word(16));
        refusedWhereFull("word(-1) of a full round", BAD, x -> x.word(-1));
        refused("goes(5, 16)", BAD, x -> x.goes(5, 16));
        refused("goes(16, 5)", BAD, x -> x.goes(16, 5));
        refused("rounds(5, 13, 0)", BAD, x -> x.rounds(5, 13, 0));
        refused("rounds(5, 12, 4)", BAD, x -> x.rounds(5, 12, 4));
        refused("sheet(4, 0, -1)", BAD, x -> x.sheet(4, 0, -1));
        refused("sheet(0, 3, -1)", BAD, x -> x.sheet(0, 3, -1));
        refused("lay(4, -1, 0)", BAD, x -> x.lay(4, -1, 0));
        refused("lay(3, -1, 0): NULL ahead of INDEX", -11, x -> x.lay(3, -1, 0));
        refused("reads(4, 0, -1, 1)", BAD, x -> x.reads(4, 0, -1, 1));
        refused("reads(3, 3, 0, 1)", BAD, x -> x.reads(3, 3, 0, 1));
        refused("reads(0, 0, 4, 21)", BAD, x -> x.reads(0, 0, 4, 21));
        BucketSheet x = new BucketSheet();
        CHECK.due("clock(3) without WORDS", x.clock(3), BAD);
        CHECK.due("back(2) without IMAGES", x.back(2), BAD);
        CHECK.due("full(48) in the dark", x.full(48), BAD);
        x = CHECK.told("cap 1;dark 9;");
        CHECK.due("enough(0) above cap", x.enough(0), BAD);
        CHECK.due("enough(1000) above cap", x.enough(1000), BAD);
    }

    private static void asks(String name, Call call) {
        CHECK.alike(name, () -> {
            BucketSheet x = scene();
            call.on(x);
            return x;
        }, RefusedTest::scene);
    }

    private static void asking() {
        CHECK.says("as WELLS are now, by itself (all stays)");
        for (int v = 1; v <= 3; v++) {
            for (int h = 1; h <= 3; h++) {
                int down = v;
                int on = h;
                asks("picture(" + v + ", " + h + ", 1, 2)", x -> x.picture(down, on, 1, 2));
                asks("shades(" + v + ", " + h + ", 2)", x -> x.shades(down, on, 2));
            }
        }
        CHECK.says("Nothing is promised beyond the answers and state changes described above");
        for (int n = 0; n < 8; n++) {
            int c = n;
            asks("late(" + n + ")", x -> x.late(c));
            asks("line(" + n + ")", x -> x.line(c));
            asks("now(" + n + ")", x -> x.now(c));
            asks("count(" + n + ")", x -> x.count(c));
            asks("rule(" + n + ")", x -> x.rule(c));
            asks("words(" + n + ")", x -> x.words(c));
            asks("clock(" + n + ")", x -> x.clock(c));
            asks("goes(7, " + n + ")", x -> x.goes(7, c));
            asks("rounds(7, 12, " + n + ")", x -> x.rounds(7, 12, c - 3));
            asks("fewest(" + n + ")", x -> x.fewest(c - 3));
            asks("spoiled(" + n + ")", x -> x.spoiled(c));
        }
        for (int w : new int[] {0, 9, 20, 47}) {
            asks("smear(" + w + ")", x -> x.smear(w));
            asks("full(" + w + ")", x -> x.full(w));
            asks("mended(" + w + ")", x -> x.mended(w));
            asks("well(" + w + ", 4)", x -> x.well(w, 4));
            asks("hots(999, " + w + ")", x -> x.hots(999, w));
            asks("enough(" + w + ")", x -> x.enough(w));
        }
        asks("longest()", x -> x.longest());
        asks("fault()", x -> x.fault());
        asks("torn()", x -> x.torn());
    }
}
