/** Promises 32 to 38: keep, back, sheet, lay, reads, torn, count. */
public final class ImagesSheetsTest {
    private static final Check CHECK = new Check("ImagesSheetsTest");

    public static void main(String[] args) {
        images();
        imagesApart();
        sheets();
        lanes();
        readsWhole();
        readsTorn();
        readsRefused();
        counts();
        CHECK.end();
    }

    private static void images() {
        BucketSheet x = CHECK.told("cap 20;trap 16 3;smear 1;row 9 1 2 3 4 5 6 7;row 30 0 0 0 0 0 0 0;clock 1;");
        CHECK.due("keep(-1)", x.keep(-1), BucketSheet.BAD);
        CHECK.due("keep(2)", x.keep(2), BucketSheet.BAD);
        CHECK.due("back(-1)", x.back(-1), BucketSheet.BAD);
        CHECK.due("back(2)", x.back(2), BucketSheet.BAD);
        CHECK.due("back(0)", x.back(0), BucketSheet.STATE);
        CHECK.due("back(1)", x.back(1), BucketSheet.STATE);
        x.expose(2);
        for (int i = 0; i < 5; i++) {
            x.down();
        }
        x.read();
        x.read();
        CHECK.due("keep(1)", x.keep(1), 0);
        CHECK.due("back(0) of the other", x.back(0), BucketSheet.STATE);
        int[][] wells = new int[48][5];
        for (int w = 0; w < 48; w++) {
            for (int what = 0; what < 5; what++) {
                wells[w][what] = x.well(w, what);
            }
        }
        int[] line = new int[8];
        for (int c = 0; c < 8; c++) {
            line[c] = x.line(c);
        }
        long[] sums = new long[7];
        for (int what = 0; what < 7; what++) {
            sums[what] = x.now(what);
        }
        x.light(0, 50);
        x.light(33, 50);
        x.expose(9);
        x.down();
        x.read();
        x.word(3);
        x.clear();
        x.down();
        CHECK.due("back(1)", x.back(1), sums[0]);
        for (int w = 0; w < 48; w++) {
            for (int what = 0; what < 5; what++) {
                CHECK.due("well(" + w + ", " + what + ") is back", x.well(w, what), wells[w][what]);
            }
        }
        for (int c = 0; c < 8; c++) {
            CHECK.due("line(" + c + ") is back", x.line(c), line[c]);
        }
        for (int what = 0; what < 7; what++) {
            CHECK.due("now(" + what + ") is back", x.now(what), sums[what]);
        }
        CHECK.due("THE ROUND is not in an image", x.count(2), 2);
    }

    private static void imagesApart() {
        BucketSheet x = CHECK.told("dark 1;");
        x.expose(1);
        CHECK.due("keep(0)", x.keep(0), 0);
        x.expose(1);
        CHECK.due("keep(1)", x.keep(1), 0);
        CHECK.due("count(3)", x.count(3), 2);
        CHECK.due("back(0)", x.back(0), 48);
        // what goes on does not change the image
        x.expose(5);
        CHECK.due("back(0) again", x.back(0), 48);
        CHECK.due("back(1)", x.back(1), 96);
        CHECK.due("keep(0) again", x.keep(0), 1);
        CHECK.due("back(0)", x.back(0), 96);
        Check.tell(x, "nothing");
        CHECK.due("back(1) behind a fault", x.back(1), 96);
        Check.tell(x, "");
        CHECK.due("back(0) behind a text", x.back(0), BucketSheet.STATE);
        CHECK.due("back(1) behind a text", x.back(1), BucketSheet.STATE);
        CHECK.due("keep(0) behind a text", x.keep(0), 0);
    }

    private static void sheets() {
        BucketSheet x = new BucketSheet();
        CHECK.due("sheet(-1, 0, 1)", x.sheet(-1, 0, 1), BucketSheet.BAD);
        CHECK.due("sheet(4, 0, 1)", x.sheet(4, 0, 1), BucketSheet.BAD);
        CHECK.due("sheet(0, -1, 1)", x.sheet(0, -1, 1), BucketSheet.BAD);
        CHECK.due("sheet(0, 3, 1)", x.sheet(0, 3, 1), BucketSheet.BAD);
        CHECK.due("sheet(0, 0, 41)", x.sheet(0, 0, 41), BucketSheet.BAD);
        CHECK.due("sheet(0, 0, -1)", x.sheet(0, 0, -1), -14);
        CHECK.due("sheet(4, 0, -1)", x.sheet(4, 0, -1), BucketSheet.BAD);
        CHECK.due("sheet(0, 3, -1)", x.sheet(0, 3, -1), BucketSheet.BAD);
        CHECK.due("sheet(0, 0, min)", x.sheet(0, 0, Integer.MIN_VALUE), -14);
        CHECK.due("count(5)", x.count(5), BucketSheet.NONE);
        CHECK.due("lay(0, 0, 1) of nothing", x.lay(0, 0, 1), -11);
        CHECK.due("sheet(0, 2, 0)", x.sheet(0, 2, 0), 1);
        CHECK.due("lay(0, 0, 1) of none", x.lay(0, 0, 1), -12);
        CHECK.due("count(5)", x.count(5), 0);
        CHECK.due("sheet(0, 1, 40)", x.sheet(0, 1, 40), 1);
        CHECK.due("lay(0, 39, 1)", x.lay(0, 39, 1), 1);
        CHECK.due("lay(0, 40, 1)", x.lay(0, 40, 1), -12);
        CHECK.due("lay(0, -1, 1)", x.lay(0, -1, 1), -12);
        CHECK.due("lay(4, 0, 1)", x.lay(4, 0, 1), BucketSheet.BAD);
        CHECK.due("lay(-1, 0, 1)", x.lay(-1, 0, 1), BucketSheet.BAD);
        CHECK.due("sheet(0, 0, -1)", x.sheet(0, 0, -1), -14);
        CHECK.due("sheet(0, 0, 41)", x.sheet(0, 0, 41), BucketSheet.BAD);
        CHECK.due("count(5) stays", x.count(5), 40);
        // a new row is of cells 0
        x.sheet(3, 0, 2);
        x.lay(3, 0, 5);
        x.lay(3, 1, 9);
        CHECK.due("reads(3, 0, 0, 1)", x.reads(3, 0, 0, 1), 1);
        CHECK.due("well(5, 1)", x.well(5, 1), 9);
        x.sheet(3, 0, 2);
        x.light(0, 4);
        CHECK.due("reads(3, 0, 0, 1) anew", x.reads(3, 0, 0, 1), 1);
        CHECK.due("well(0, 1)", x.well(0, 1), 0);
    }

    private static void lanes() {
        BucketSheet x = new BucketSheet();
        for (int lane = 0; lane < 3; lane++) {
            x.sheet(lane, lane, 2);
            // the lowest bits of it: 3 in bytes, 259 in shorts
            x.lay(lane, 0, 256 + 3);
            x.lay(lane, 1, 7);
        }
        CHECK.due("bytes", x.reads(0, 0, 0, 1), 1);
        CHECK.due("well(3, 1)", x.well(3, 1), 7);
        CHECK.due("shorts", x.reads(1, 1, 0, 1), -20);
        CHECK.due("ints", x.reads(2, 2, 0, 1), -20);
        for (int lane = 0; lane < 3; lane++) {
            x.lay(lane, 0, 65536 + 4);
            x.lay(lane, 1, 8);
        }
        CHECK.due("bytes", x.reads(0, 0, 0, 1), 1);
        CHECK.due("shorts", x.reads(1, 1, 0, 1), 1);
        CHECK.due("ints", x.reads(2, 2, 0, 1), -20);
        // with a sign
        x.lay(0, 0, 255);
        CHECK.due("a byte below 0", x.reads(0, 0, 0, 1), -20);
        x.lay(0, 0, 4);
        x.lay(0, 1, 128 + 3);
        CHECK.due("light below 0", x.reads(0, 0, 0, 1), -20);
    }

    private static void readsWhole() {
        BucketSheet x = new BucketSheet();
        x.sheet(1, 2, 40);
        for (int i = 0; i < 20; i++) {
            x.lay(1, 2 * i, i + 3);
            x.lay(1, 2 * i + 1, 2 * i + 1);
        }
        CHECK.due("reads(1, 2, 0, 20)", x.reads(1, 2, 0, 20), 20);
        CHECK.due("torn()", x.torn(), 0);
        for (int w = 0; w < 48; w++) {
            CHECK.due("well(" + w + ", 1)", x.well(w, 1), w < 3 || w > 22 ? 0 : 2 * (w - 3) + 1);
        }
        CHECK.due("count(6)", x.count(6), 20);
        // one behind another: the last one of a well stays
        x.sheet(2, 0, 4);
        x.lay(2, 1, 5);
        x.lay(2, 3, 6);
        CHECK.due("reads(2, 0, 0, 2)", x.reads(2, 0, 0, 2), 2);
        CHECK.due("well(0, 1)", x.well(0, 1), 6);
        x.lay(2, 1, 9);
        x.lay(2, 2, 8);
        CHECK.due("reads(2, 0, 1, 1): from an odd cell", x.reads(2, 0, 1, 1), 1);
        CHECK.due("well(9, 1)", x.well(9, 1), 8);
    }

    private static void readsTorn() {
        BucketSheet x = new BucketSheet();
        x.sheet(0, 1, 5);
        x.lay(0, 0, 1);
        x.lay(0, 1, 11);
        x.lay(0, 2, 2);
        x.lay(0, 3, 22);
        x.lay(0, 4, 99);
        // the third has but one cell: it is not whole, so it is not refused
        CHECK.due("reads(0, 1, 0, 3)", x.reads(0, 1, 0, 3), 2);
        CHECK.due("torn()", x.torn(), 2);
        CHECK.due("well(1, 1)", x.well(1, 1), 11);
        CHECK.due("well(2, 1)", x.well(2, 1), 22);
        CHECK.due("reads(0, 1, 5, 0)", x.reads(0, 1, 5, 0), 0);
        CHECK.due("torn() of n 0", x.torn(), 0);
        int[] off = {-1, 5, 4, 40, -2, Integer.MAX_VALUE, Integer.MIN_VALUE, Integer.MAX_VALUE - 1};
        for (int f : off) {
            x.reads(0, 1, 0, 0);
            CHECK.due("reads(0, 1, " + f + ", 3)", x.reads(0, 1, f, 3), 0);
            CHECK.due("torn() at " + f, x.torn(), 2);
        }
        CHECK.due("reads(0, 0, 0, 1): another lane", x.reads(0, 0, 0, 1), 0);
        CHECK.due("torn()", x.torn(), 3);
        CHECK.due("reads(0, 0, 9, 1): another lane first", x.reads(0, 0, 9, 1), 0);
        CHECK.due("torn()", x.torn(), 3);
        CHECK.due("reads(1, 2, -1, 1): nothing first", x.reads(1, 2, -1, 1), 0);
        CHECK.due("torn()", x.torn(), 1);
        CHECK.due("reads(1, 2, 0, 0)", x.reads(1, 2, 0, 0), 0);
        CHECK.due("torn()", x.torn(), 0);
        CHECK.due("reads(0, 0, 0, 0)", x.reads(0, 0, 0, 0), 0);
        CHECK.due("torn()", x.torn(), 0);
        x.sheet(1, 0, 0);
        CHECK.due("reads(1, 0, 0, 1) of no cells", x.reads(1, 0, 0, 1), 0);
        CHECK.due("torn()", x.torn(), 2);
    }

    private static void readsRefused() {
        BucketSheet x = new BucketSheet();
        x.sheet(0, 2, 5);
        x.lay(0, 0, 1);
        x.lay(0, 1, 11);
        x.lay(0, 2, 48);
        CHECK.due("reads(0, 0, 0, 1)", x.reads(0, 0, 0, 1), 0);
        CHECK.due("torn()", x.torn(), 3);
        CHECK.due("reads(0, 2, 0, 2)", x.reads(0, 2, 0, 2), -21);
        CHECK.due("none came", x.well(1, 1), 0);
        CHECK.due("torn() stays", x.torn(), 3);
        // refused ahead of the fault
        CHECK.due("reads(0, 2, 0, 20)", x.reads(0, 2, 0, 20), -21);
        CHECK.due("torn() stays", x.torn(), 3);
        x.lay(0, 2, 47);
        x.lay(0, 3, 100);
        CHECK.due("light 100", x.reads(0, 2, 0, 2), -21);
        x.lay(0, 3, 99);
        CHECK.due("reads(4, 2, 0, 1)", x.reads(4, 2, 0, 1), BucketSheet.BAD);
        CHECK.due("reads(-1, 2, 0, 1)", x.reads(-1, 2, 0, 1), BucketSheet.BAD);
        CHECK.due("reads(0, 3, 0, 1)", x.reads(0, 3, 0, 1), BucketSheet.BAD);
        CHECK.due("reads(0, -1, 0, 1)", x.reads(0, -1, 0, 1), BucketSheet.BAD);
        CHECK.due("reads(0, 2, 0, 21)", x.reads(0, 2, 0, 21), BucketSheet.BAD);
        CHECK.due("reads(0, 2, 0, -1)", x.reads(0, 2, 0, -1), BucketSheet.BAD);
        CHECK.due("torn() stays", x.torn(), 3);
        CHECK.due("reads(0, 2, 0, 2)", x.reads(0, 2, 0, 2), 2);
        CHECK.due("torn()", x.torn(), 0);
    }

    private static void counts() {
        BucketSheet x = CHECK.told("hot 1 1;hot 2 99;hot 47 5;trap 1 1;trap 9 50;clock 1 2 3 4;row 1 0 2 0 3 0 4 0;");
        int[] want = {3, 2, 4, 0, 0, BucketSheet.NONE, 4};
        for (int what = 0; what < 7; what++) {
            CHECK.due("count(" + what + ")", x.count(what), want[what]);
        }
        x.keep(1);
        x.feed(0);
        x.light(0, 0);
        x.sheet(0, 2, 17);
        int[] then = {3, 2, 4, 1, 8, 17, 3};
        for (int what = 0; what < 7; what++) {
            CHECK.due("count(" + what + ") then", x.count(what), then[what]);
        }
        CHECK.due("count(7)", x.count(7), BucketSheet.BAD);
        CHECK.due("count(-1)", x.count(-1), BucketSheet.BAD);
        x.text();
        CHECK.due("count(4) behind text()", x.count(4), 0);
        Check.tell(x, "");
        CHECK.due("SHEETS stay", x.count(5), 17);
    }
}
