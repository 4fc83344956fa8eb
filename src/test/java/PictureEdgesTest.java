/** The edges of THE PICTURE and LATE in "Terms" 2, of promises 15 to 19 (the picture) and 20 to 24 (how long). */
public final class PictureEdgesTest {
    private static final Check CHECK = new Check("PictureEdgesTest");

    public static void main(String[] args) {
        placesOfThePicture();
        summedAheadOfValue();
        theLineInAPicture();
        asWellsAreNow();
        shadesOfThePicture();
        lateColumns();
        smearOfWells();
        spoiledValues();
        fullBy();
        longest();
        enough();
        hots();
        mended();
        CHECK.end();
    }

    private static BucketSheet lit(String text, int all) {
        BucketSheet x = CHECK.told(text);
        for (int w = 0; w < 48; w++) {
            x.light(w, all);
        }
        return x;
    }

    private static void placesOfThePicture() {
        CHECK.says("It has 6 by v ROWS, 8 by h COLUMNS, rounded up, the lowest ROW first, PLACE 7 first.");
        int[] rows = {6, 3, 2};
        int[] columns = {8, 4, 3};
        for (int v = 1; v <= 3; v++) {
            for (int h = 1; h <= 3; h++) {
                BucketSheet x = freshly();
                for (int row = -1; row <= 6; row++) {
                    for (int column = -1; column <= 8; column++) {
                        boolean has = row >= 0 && row < rows[v - 1] && column >= 0 && column < columns[h - 1];
                        CHECK.due("picture(" + v + ", " + h + ", " + row + ", " + column + ")",
                            x.picture(v, h, row, column), has ? sumOf(v, h, row, column) : BucketSheet.BAD);
                    }
                }
            }
        }
        CHECK.says("THE PICTURE: its VALUE in a ROW, a COLUMN (as it comes: 0 first). BAD: also what it has not.");
        CHECK.bounds("picture(.., 1, 0, 0)", 1, 3, BucketSheet::new, (y, n) -> y.picture(n, 1, 0, 0));
        CHECK.bounds("picture(1, .., 0, 0)", 1, 3, BucketSheet::new, (y, n) -> y.picture(1, n, 0, 0));
        for (int v = 1; v <= 3; v++) {
            int by = v;
            CHECK.bounds("picture(" + v + ", 1, .., 0)", 0, rows[v - 1] - 1, BucketSheet::new, (y, n) -> y.picture(by, 1, n, 0));
            CHECK.bounds("picture(1, " + v + ", 0, ..)", 0, columns[v - 1] - 1, BucketSheet::new, (y, n) -> y.picture(1, by, 0, n));
        }
    }

    /** WELL w has w / 2 + 1. */
    private static BucketSheet freshly() {
        BucketSheet x = new BucketSheet();
        for (int w = 0; w < 48; w++) {
            x.light(w, w / 2 + 1);
        }
        x.expose(1);
        return x;
    }

    private static int sumOf(int v, int h, int row, int column) {
        int sum = 0;
        for (int r = 5 - row * v; r > 5 - row * v - v; r--) {
            for (int c = 7 - column * h; c > 7 - column * h - h && c >= 0; c--) {
                sum += (8 * r + c) / 2 + 1;
            }
        }
        return sum;
    }

    private static void summedAheadOfValue() {
        CHECK.says("h at a time summed ahead of VALUE (the last ones as many as there are).");
        BucketSheet x = lit("gain 1 2;", 3);
        x.expose(1);
        CHECK.due("3 by 2", x.picture(1, 1, 0, 0), 1);
        CHECK.due("6 by 2", x.picture(1, 2, 0, 3), 3);
        CHECK.due("9 by 2", x.picture(1, 3, 0, 0), 4);
        CHECK.due("the last ones are two: 6 by 2", x.picture(1, 3, 0, 2), 3);
        CHECK.due("the last ones of three ROWS: 18 by 2", x.picture(3, 3, 1, 2), 9);
        // the next ROW's first ones are its own
        CHECK.due("9 by 2 of the next ROW", x.picture(1, 3, 1, 0), 4);
        x = lit("cap 999;", 99);
        x.expose(1);
        CHECK.due("198", x.picture(1, 2, 0, 0), 198);
        CHECK.due("297 is 255 at most", x.picture(1, 3, 0, 0), 255);
        CHECK.due("198, the last two", x.picture(1, 3, 5, 2), 198);
        CHECK.due("297 of three ROWS", x.picture(3, 1, 1, 7), 255);
    }

    private static void theLineInAPicture() {
        CHECK.says("THE LINE being empty: till 6 ROWS are through: HANDED DOWN v times, then 8 READ");
        // twice cap is all that THE LINE takes, of a picture too: 20 of 30
        BucketSheet x = lit("cap 10;", 10);
        x.expose(1);
        CHECK.due("one ROW", x.picture(1, 1, 0, 0), 10);
        CHECK.due("two ROWS", x.picture(2, 1, 0, 0), 20);
        CHECK.due("three ROWS", x.picture(3, 1, 0, 0), 20);
        CHECK.due("three of three ROWS", x.picture(3, 3, 0, 0), 60);
        CHECK.due("now(3) stays", x.now(3), 0);
        // what THE LINE has now is not in it, and takes no room in it
        x.down();
        x.down();
        CHECK.due("line(7)", x.line(7), 20);
        CHECK.due("one ROW beside a full line", x.picture(1, 1, 0, 0), 10);
        CHECK.due("two ROWS beside a full line", x.picture(2, 1, 0, 0), 20);
        CHECK.due("ROW 3 of it", x.picture(1, 1, 3, 7), 10);
        CHECK.due("ROWS 4, 5 of it are empty", x.picture(1, 1, 4, 7) + x.picture(1, 1, 5, 0), 0);
        CHECK.due("line(7) stays", x.line(7), 20);
        CHECK.due("a picture of nothing", new BucketSheet().picture(1, 1, 0, 0), 0);
    }

    private static void asWellsAreNow() {
        CHECK.says("THE PICTURE of v by h (1 to 3 each): as WELLS are now, by itself (all stays)");
        // ROW 5 goes into THE LINE ahead of TRAPS and smear: its VALUES are as they are
        BucketSheet x = lit("cap 99;smear 9;trap 47 50;trap 39 50;", 9);
        x.expose(1);
        CHECK.due("ROW 5", x.picture(1, 1, 0, 0), 9);
        // ROW 4 came into 47, whose TRAP took all; smear of 81 fell on it
        CHECK.due("ROW 4", x.picture(1, 1, 1, 0), 81);
        CHECK.due("ROW 4 of COLUMN 6", x.picture(1, 1, 1, 1), 90);
        // what a TRAP holds already comes too
        x = CHECK.told("trap 47 5;");
        x.light(39, 5);
        x.expose(1);
        x.down();
        CHECK.due("now(0)", x.now(0), 0);
        CHECK.due("the TRAP lets go in the picture", x.picture(1, 1, 1, 0), 5);
        CHECK.due("well(47, 4) stays", x.well(47, 4), 5);
        CHECK.due("again", x.picture(1, 1, 1, 0), 5);
    }

    private static void shadesOfThePicture() {
        CHECK.says("Of THE PICTURE: 0 the greatest VALUE, 1 the least, 2 all summed, 3 how many are 255. BAD.");
        CHECK.bounds("shades(.., 1, 0)", 1, 3, BucketSheet::new, (x, n) -> x.shades(n, 1, 0));
        CHECK.bounds("shades(1, .., 0)", 1, 3, BucketSheet::new, (x, n) -> x.shades(1, n, 0));
        CHECK.bounds("shades(1, 1, ..)", 0, 3, BucketSheet::new, (x, n) -> x.shades(1, 1, n));
        CHECK.bounds("shades(3, 3, ..)", 0, 3, BucketSheet::new, (x, n) -> x.shades(3, 3, n));
        int[] rows = {6, 3, 2};
        int[] columns = {8, 4, 3};
        for (int v = 1; v <= 3; v++) {
            for (int h = 1; h <= 3; h++) {
                int all = rows[v - 1] * columns[h - 1];
                BucketSheet x = lit("cap 999;gain 9 1;", 99);
                shades("all 255", x, v, h, 0, 0, 0, 0);
                x.expose(1);
                shades("all 255", x, v, h, 255, 255, 255 * all, all);
                // one VALUE alone, the last one: ROW 0, COLUMN 0
                x = lit("gain 1 1;", 0);
                x.light(0, 50);
                x.expose(1);
                shades("the last one", x, v, h, 50, 0, 50, 0);
                // the first one: ROW 5, COLUMN 7
                x = lit("gain 1 1;", 0);
                x.light(47, 50);
                x.expose(1);
                shades("the first one", x, v, h, 50, 0, 50, 0);
                // all but the last one
                x = lit("cap 999;", 0);
                for (int w = 0; w < 48; w++) {
                    x.light(w, w / 8 < v && (7 - w % 8) / h == columns[h - 1] - 1 ? 0 : 99);
                }
                x.expose(4);
                shades("all but the last one", x, v, h, 255, 0, 255 * (all - 1), all - 1);
                // all but the first one
                x = lit("cap 999;", 0);
                for (int w = 0; w < 48; w++) {
                    x.light(w, w / 8 > 5 - v && w % 8 > 7 - h ? 0 : 99);
                }
                x.expose(4);
                shades("all but the first one", x, v, h, 255, 0, 255 * (all - 1), all - 1);
            }
        }
        for (int value = 254; value <= 256; value++) {
            BucketSheet x = CHECK.told("cap 999;row 99 0 0 0 0 0 0 0;");
            x.expose(2);
            x.light(0, value - 198);
            x.expose(1);
            shades("254 is not 255", x, 1, 1, Math.min(255, value), 0, Math.min(255, value), value > 254 ? 1 : 0);
        }
        // THE PICTURE has its smear and its TRAPS: 1 of ROW 4 is held and comes as ROW 3, smear of 2 falls on ROWS 4 to 0
        BucketSheet x = CHECK.told("smear 2;trap 47 1;");
        x.light(39, 1);
        x.expose(1);
        x.light(39, 0);
        shades("held", x, 1, 1, 1, 0, 1, 0);
        x.light(47, 1);
        shades("held and smeared", x, 1, 1, 3, 0, 11, 0);
    }

    private static void shades(String when, BucketSheet x, int v, int h, int... want) {
        for (int what = 0; what < 4; what++) {
            CHECK.due(when + ": shades(" + v + ", " + h + ", " + what + ")", x.shades(v, h, what), want[what]);
        }
    }

    private static void lateColumns() {
        CHECK.says("LATE: CHARGE of a COLUMN (0 to 7). BAD.");
        CHECK.bounds("late()", 0, 7, BucketSheet::new, (x, n) -> x.late(n));
        CHECK.says("LATE: what a 7th HANDING DOWN and the READ behind it bring behind THE PICTURE of 1 by 1.");
        // the smear of ROW 0 at the first handing down is there with the 7th; of ROW 5 that of the 6th
        for (int w = 0; w < 48; w++) {
            BucketSheet x = CHECK.told("smear 9;gain 9 1;cap 999;");
            x.light(w, 99);
            for (int c = 0; c < 8; c++) {
                CHECK.due("late(" + c + ") lit in " + w, x.late(c), c == w % 8 ? 891 : 0);
            }
        }
        // what the picture read is not late, nor what THE LINE has now
        BucketSheet x = lit("", 9);
        x.expose(1);
        x.down();
        CHECK.due("late(3) of a picture that was read", x.late(3), 0);
        // a TRAP in ROW 5 that lets go with the 6th handing down: CHARGE came there with the 5th from ROW 0
        x = CHECK.told("trap 40 7;trap 33 7;");
        x.light(0, 7);
        x.light(1, 7);
        x.expose(1);
        CHECK.due("late(0)", x.late(0), 7);
        // ... in ROW 4 it lets go with the 5th, which comes to ROW 5 with the 6th and into THE LINE with the 7th
        CHECK.due("late(1)", x.late(1), 7);
        CHECK.due("late(2)", x.late(2), 0);
        // cap: what lies in ROW 5 at most
        x = lit("cap 5;smear 9;", 99);
        CHECK.due("late(0) of cap", x.late(0), 5);
    }

    private static void smearOfWells() {
        CHECK.says("How much LIGHT falls, as smear, on CHARGE from a WELL while it is HANDED DOWN into THE LINE (nothing else is"
            + " looked at). BAD.");
        CHECK.bounds("smear()", 0, 47, BucketSheet::new, (x, n) -> x.smear(n));
        BucketSheet x = lit("cap 1;smear 9;drain;trap 47 50;", 99);
        for (int w = 0; w < 48; w++) {
            CHECK.due("smear(" + w + ") of the most", x.smear(w), (5 - w / 8) * 891);
        }
        for (int lit = 0; lit < 48; lit++) {
            x = CHECK.told("smear 1;");
            x.light(lit, 1);
            for (int w = 0; w < 48; w++) {
                CHECK.due("smear(" + w + ") lit in " + lit, x.smear(w), lit > w && lit % 8 == w % 8 ? 1 : 0);
            }
        }
        x = lit("smear 0;", 99);
        CHECK.due("smear(0) of 0", x.smear(0), 0);
    }

    private static void spoiledValues() {
        CHECK.says("by how many VALUES they differ (what 0), the greatest difference (1). BAD.");
        CHECK.bounds("spoiled()", 0, 1, BucketSheet::new, (x, n) -> x.spoiled(n));
        BucketSheet x = lit("cap 999;smear 9;", 99);
        // all but ROW 5, which goes into THE LINE ahead of any smear
        CHECK.due("spoiled(0) of all", x.spoiled(0), 40);
        CHECK.due("spoiled(1) of all", x.spoiled(1), 255);
        x.expose(3);
        CHECK.due("spoiled(0): all are 255 already", x.spoiled(0), 0);
        CHECK.due("spoiled(1): all are 255 already", x.spoiled(1), 0);
        x = lit("trap 47 1;", 0);
        x.light(39, 1);
        x.expose(1);
        // the TRAP takes 1 of ROW 4 and lets it go behind, as ROW 3
        CHECK.due("spoiled(0) of 1", x.spoiled(0), 2);
        CHECK.due("spoiled(1) of 1", x.spoiled(1), 1);
        CHECK.says("Of THE PICTURE of 1 by 1 as it is (1), as it would be without TRAPS and smear (0)");
        // the greatest difference is so by less as well as by more
        x = CHECK.told("trap 47 50;");
        for (int r = 0; r < 5; r++) {
            x.light(8 * r + 7, 60);
        }
        x.expose(1);
        CHECK.due("spoiled(0) by less", x.spoiled(0), 1);
        CHECK.due("spoiled(1) by less", x.spoiled(1), 50);
        // of VALUES: what is divided down to the same is no difference
        x = CHECK.told("gain 1 9;trap 47 1;");
        x.light(39, 17);
        x.expose(1);
        CHECK.due("spoiled(0) divided down", x.spoiled(0), 0);
        x.light(39, 1);
        x.expose(1);
        CHECK.due("spoiled(0) of 18 and 17", x.spoiled(0), 1);
    }

    /** One WELL into which so much comes in a TICK (0 to 207). */
    private static BucketSheet coming(int cap, int w, int inTick) {
        int dark = Math.max(0, inTick - 198);
        int hot = Math.min(99, Math.max(0, inTick - dark - 99));
        BucketSheet x = CHECK.told("cap " + cap + ";dark " + dark + ";" + (hot > 0 ? "hot " + w + " " + hot + ";" : ""));
        x.light(w, inTick - dark - hot);
        return x;
    }

    private static void fullBy() {
        CHECK.says("TICKS till a WELL that is empty is full by itself (at least cap). BAD; NONE: never.");
        CHECK.bounds("full()", 0, 47, BucketSheet::new, (x, n) -> x.full(n));
        int[] caps = {1, 2, 3, 98, 99, 100, 101, 206, 207, 208, 500, 998, 999};
        for (int cap : caps) {
            for (int inTick = 0; inTick <= 207; inTick++) {
                int want = inTick == 0 ? BucketSheet.NONE : cap / inTick + (cap % inTick == 0 ? 0 : 1);
                CHECK.due("full(47) of " + cap + ", " + inTick, coming(cap, 47, inTick).full(47), want);
            }
        }
        // "by itself": not by what runs over, "that is empty": not by what there is
        BucketSheet x = CHECK.told("cap 10;");
        x.light(0, 99);
        x.light(8, 1);
        x.expose(9);
        CHECK.due("full(8)", x.full(8), 10);
        CHECK.due("full(0)", x.full(0), 1);
        CHECK.due("full(16)", x.full(16), BucketSheet.NONE);
    }

    private static void longest() {
        CHECK.says("The most TICKS (0 to 999) for which no empty WELL gets above cap.");
        int[] caps = {1, 2, 99, 100, 206, 207, 208, 414, 998, 999};
        for (int cap : caps) {
            for (int inTick = 0; inTick <= 207; inTick++) {
                int want = inTick == 0 ? 999 : Math.min(999, cap / inTick);
                CHECK.due("longest() of " + cap + ", " + inTick, coming(cap, inTick % 48, inTick).longest(), want);
            }
        }
        BucketSheet x = coming(100, 47, 10);
        x.expose(9);
        CHECK.due("longest() for empty ones", x.longest(), 10);
        x.light(0, 11);
        CHECK.due("longest() for all of them", x.longest(), 9);
    }

    private static void enough() {
        CHECK.says("The fewest TICKS (1 to 999) for which each WELL with LIGHT (from empty) has n (1 to 999) of CHARGE or more, none"
            + " above cap. BAD; NONE: there are none such.");
        CHECK.bounds("enough()", 1, 999, () -> coming(999, 5, 1), (x, n) -> x.enough(n));
        for (int n = 1; n <= 999; n++) {
            CHECK.due("enough(" + n + ") of 1", coming(999, 47, 1).enough(n), n);
            CHECK.due("enough(" + n + ") of 1, cap 998", coming(998, 0, 1).enough(n), n < 999 ? n : BucketSheet.NONE);
        }
        BucketSheet x = CHECK.told("cap 100;");
        x.light(0, 10);
        x.light(47, 5);
        CHECK.due("enough(5)", x.enough(5), 1);
        CHECK.due("enough(6)", x.enough(6), 2);
        CHECK.due("enough(10)", x.enough(10), 2);
        CHECK.due("enough(11)", x.enough(11), 3);
        CHECK.due("enough(50): 100 is not above cap", x.enough(50), 10);
        CHECK.due("enough(51)", x.enough(51), BucketSheet.NONE);
        x.expose(20);
        CHECK.due("enough(50) from empty", x.enough(50), 10);
        // n may be above cap: never
        CHECK.due("enough(999) of cap 998", coming(998, 3, 99).enough(999), BucketSheet.NONE);
        // one TICK is too much already
        CHECK.due("enough(1) of cap 98", coming(98, 3, 99).enough(1), BucketSheet.NONE);
        CHECK.due("enough(1) of cap 99", coming(99, 3, 99).enough(1), 1);
        CHECK.due("enough(99) of cap 99", coming(99, 3, 99).enough(99), 1);
        // without any WELL with LIGHT one TICK is the fewest, if none gets above cap by it
        CHECK.due("enough(999) without LIGHT", new BucketSheet().enough(999), 1);
        CHECK.due("enough(1) without LIGHT at cap", CHECK.told("cap 9;dark 9;").enough(1), 1);
        CHECK.due("enough(1) without LIGHT above cap", CHECK.told("cap 8;dark 9;").enough(1), BucketSheet.NONE);
        // a WELL without LIGHT need not have n
        x = CHECK.told("cap 100;hot 9 1;");
        x.light(0, 10);
        CHECK.due("enough(100) beside a hot one", x.enough(100), 10);
    }

    private static void hots() {
        CHECK.says("WELLS that have n (1 to 9999) of CHARGE or more without LIGHT (HOT and dark alone) behind t TICKS (1 to 999):"
            + " bits. BAD -1.");
        CHECK.bounds("hots(.., 1)", 1, 999, BucketSheet::new, (x, n) -> x.hots(n, 1));
        CHECK.bounds("hots(1, ..)", 1, 9999, BucketSheet::new, (x, n) -> x.hots(1, n));
        for (int w = 0; w < 48; w++) {
            BucketSheet x = CHECK.told("hot " + w + " 11;");
            x.light((w + 1) % 48, 99);
            CHECK.due("hots(909, 9999) of " + w, x.hots(909, 9999), 1L << w);
            CHECK.due("hots(908, 9999) of " + w, x.hots(908, 9999), 0);
            CHECK.due("hots(1, 11) of " + w, x.hots(1, 11), 1L << w);
            CHECK.due("hots(1, 12) of " + w, x.hots(1, 12), 0);
        }
        BucketSheet x = CHECK.told("dark 9;hot 0 1;hot 47 99;");
        CHECK.due("hots(999, 8991)", x.hots(999, 8991), (1L << 48) - 1);
        CHECK.due("hots(999, 8992)", x.hots(999, 8992), 1L | 1L << 47);
        CHECK.due("hots(999, 9990)", x.hots(999, 9990), 1L | 1L << 47);
        CHECK.due("hots(999, 9991)", x.hots(999, 9991), 1L << 47);
        CHECK.due("hots(999, 1) in the dark", new BucketSheet().hots(999, 1), 0);
    }

    private static void mended() {
        CHECK.says("The mean of CHARGE of WELLS beside a WELL (above, below, before, behind) that are not HOT, divided down. BAD; NONE:"
            + " there are none such.");
        CHECK.bounds("mended()", 0, 47, BucketSheet::new, (x, n) -> x.mended(n));
        for (int w = 0; w < 48; w++) {
            BucketSheet x = new BucketSheet();
            for (int i = 0; i < 48; i++) {
                x.light(i, 2 * i + 1);
            }
            x.expose(1);
            int sum = 0;
            int many = 0;
            StringBuilder hot = new StringBuilder();
            for (int i = 0; i < 48; i++) {
                if (Math.abs(i / 8 - w / 8) + Math.abs(i % 8 - w % 8) == 1) {
                    sum += 2 * i + 1;
                    many++;
                    hot.append("hot ").append(i).append(" 1;");
                }
            }
            CHECK.due("mended(" + w + ")", x.mended(w), sum / many);
            // all beside it are HOT, it may be HOT or not
            x = CHECK.told(hot.toString());
            x.expose(9);
            CHECK.due("mended(" + w + ") beside hot ones", x.mended(w), BucketSheet.NONE);
            x = CHECK.told("hot " + w + " 9;");
            x.expose(9);
            CHECK.due("mended(" + w + ") of a hot one", x.mended(w), 0);
            // one of them is left
            x = CHECK.told(hot.substring(hot.indexOf(";") + 1));
            x.light(w < 8 ? w == 0 ? 1 : w - 1 : w - 8, 7);
            x.expose(1);
            CHECK.due("mended(" + w + ") by the first one", x.mended(w), 7);
        }
    }
}
