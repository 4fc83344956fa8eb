/** Promises 20 to 24: full, longest, enough, hots, mended. */
public final class HowLongTest {
    private static final Check CHECK = new Check("HowLongTest");

    public static void main(String[] args) {
        fullWell();
        longestTicks();
        enoughTicks();
        hotWells();
        mendedWells();
        CHECK.end();
    }

    private static void fullWell() {
        BucketSheet x = CHECK.told("cap 100;row 1 3 99 50 0 0 0 0;hot 1 4;hot 5 2;");
        CHECK.due("full(0)", x.full(0), 100);
        CHECK.due("full(1)", x.full(1), 15);
        CHECK.due("full(2)", x.full(2), 2);
        CHECK.due("full(3)", x.full(3), 2);
        CHECK.due("full(4)", x.full(4), BucketSheet.NONE);
        CHECK.due("full(5)", x.full(5), 50);
        CHECK.due("full(48)", x.full(48), BucketSheet.BAD);
        CHECK.due("full(-1)", x.full(-1), BucketSheet.BAD);
        x.expose(90);
        CHECK.due("full(0) from empty", x.full(0), 100);
        x.light(4, 100);
        x.light(4, 99);
        CHECK.due("full(4) lit", x.full(4), 2);
        x = CHECK.told("cap 999;dark 1;");
        CHECK.due("full(7) by dark", x.full(7), 999);
        x = CHECK.told("cap 1;dark 9;");
        CHECK.due("full(7) at once", x.full(7), 1);
    }

    private static void longestTicks() {
        CHECK.due("longest() of nothing", new BucketSheet().longest(), 999);
        CHECK.due("longest() 999", CHECK.told("cap 999;dark 1;").longest(), 999);
        CHECK.due("longest() 499", CHECK.told("cap 999;dark 2;").longest(), 499);
        CHECK.due("longest() 0", CHECK.told("cap 8;dark 9;").longest(), 0);
        CHECK.due("longest() 1", CHECK.told("cap 9;dark 9;").longest(), 1);
        BucketSheet x = CHECK.told("cap 100;row 7 0 0 0 0 0 0 0;hot 47 9;dark 1;");
        CHECK.due("longest() by hot", x.longest(), 10);
        x.light(47, 1);
        CHECK.due("longest() by hot, lit", x.longest(), 9);
    }

    private static void enoughTicks() {
        BucketSheet x = CHECK.told("cap 100;row 7 3 0 0 0 0 0 0;");
        CHECK.due("enough(1)", x.enough(1), 1);
        CHECK.due("enough(3)", x.enough(3), 1);
        CHECK.due("enough(4)", x.enough(4), 2);
        CHECK.due("enough(42)", x.enough(42), 14);
        CHECK.due("enough(43)", x.enough(43), BucketSheet.NONE);
        CHECK.due("enough(0)", x.enough(0), BucketSheet.BAD);
        CHECK.due("enough(1000)", x.enough(1000), BucketSheet.BAD);
        x.expose(14);
        CHECK.due("enough(42) from empty", x.enough(42), 14);
        // dark and hot help those with light, and no well may get above cap
        x = CHECK.told("cap 100;row 7 3 0 0 0 0 0 0;dark 1;hot 1 2;hot 9 49;");
        CHECK.due("enough(12)", x.enough(12), 2);
        CHECK.due("enough(13): well 9 gets above cap", x.enough(13), BucketSheet.NONE);
        CHECK.due("enough(5) without light", new BucketSheet().enough(5), 1);
        CHECK.due("enough(5) without light, above cap", CHECK.told("cap 5;dark 6;").enough(5), BucketSheet.NONE);
        x = CHECK.told("cap 999;row 1 0 0 0 0 0 0 0;");
        CHECK.due("enough(999)", x.enough(999), 999);
    }

    private static void hotWells() {
        BucketSheet x = CHECK.told("hot 0 5;hot 47 99;hot 9 1;row 99 99 0 0 0 0 0 0;cap 1;");
        CHECK.due("hots(1, 1)", x.hots(1, 1), 1L | 1L << 9 | 1L << 47);
        CHECK.due("hots(1, 2)", x.hots(1, 2), 1L | 1L << 47);
        CHECK.due("hots(2, 2)", x.hots(2, 2), 1L | 1L << 9 | 1L << 47);
        CHECK.due("hots(2, 11)", x.hots(2, 11), 1L << 47);
        CHECK.due("hots(999, 9999)", x.hots(999, 9999), 1L << 47);
        CHECK.due("hots(0, 1)", x.hots(0, 1), BucketSheet.BAD);
        CHECK.due("hots(1000, 1)", x.hots(1000, 1), BucketSheet.BAD);
        CHECK.due("hots(1, 0)", x.hots(1, 0), BucketSheet.BAD);
        CHECK.due("hots(1, 10000)", x.hots(1, 10000), BucketSheet.BAD);
        x = CHECK.told("hot 3 1;dark 9;");
        CHECK.due("hots(1, 9)", x.hots(1, 9), (1L << 48) - 1);
        CHECK.due("hots(1, 10)", x.hots(1, 10), 8);
        CHECK.due("hots(1, 11)", x.hots(1, 11), 0);
    }

    private static void mendedWells() {
        BucketSheet x = CHECK.told("row 0 10 0 0 0 0 0 1;row 7 50 21 0 0 0 2 3;row 0 5 0 0 0 0 0 4;");
        x.expose(1);
        CHECK.due("mended(9)", x.mended(9), (10 + 7 + 21 + 5) / 4);
        CHECK.due("mended(0)", x.mended(0), 17 / 2);
        CHECK.due("mended(8): nothing before", x.mended(8), 50 / 3);
        CHECK.due("mended(15): nothing behind", x.mended(15), (1 + 4 + 2) / 3);
        CHECK.due("mended(47)", x.mended(47), 0);
        CHECK.due("mended(48)", x.mended(48), BucketSheet.BAD);
        CHECK.due("mended(-1)", x.mended(-1), BucketSheet.BAD);
        x = CHECK.told("row 0 10 0 0 0 0 0 0;row 7 50 21 0 0 0 0 0;row 0 5 0 0 0 0 0 0;hot 1 90;hot 10 90;hot 9 1;");
        x.expose(1);
        CHECK.due("mended(9) beside hot ones", x.mended(9), (7 + 5) / 2);
        x = CHECK.told("hot 1 1;hot 8 1;");
        CHECK.due("mended(0)", x.mended(0), BucketSheet.NONE);
    }
}
