/** The edges of EXPOSED, HANDED DOWN, READ in "Terms" 2 and of promises 9 to 14. */
public final class ChargeEdgesTest {
    private static final Check CHECK = new Check("ChargeEdgesTest");
    /** Of a WELL in each ROW: the ROWS that take what runs over, one behind another. */
    private static final int[][] ORDER = {{1, 2, 3, 4, 5}, {0, 2, 3, 4, 5}, {1, 3, 0, 4, 5}, {2, 4, 1, 5, 0}, {3, 5, 2, 1, 0},
        {4, 3, 2, 1, 0}};

    public static void main(String[] args) {
        rowsOfWells();
        ticks();
        comesIn();
        aboveCap();
        wholeColumn();
        asMuchAsThereIsRoom();
        wellsByNumbers();
        byDrain();
        rowsGoDown();
        twiceCap();
        trapsTake();
        trapsLetGo();
        smearComesThen();
        runsOverLikewise();
        downOnce();
        placesGoOn();
        readOnce();
        valueIsDividedDown();
        linePlaces();
        sums();
        fullWells();
        cleared();
        CHECK.end();
    }

    /** CHARGE in a COLUMN, from ROW 0 down. */
    private static void column(String when, BucketSheet x, int c, int... want) {
        for (int r = 0; r < 6; r++) {
            CHECK.due(when + ": well(" + (8 * r + c) + ", 0)", x.well(8 * r + c, 0), want[r]);
        }
    }

    private static void line(String when, BucketSheet x, int... want) {
        for (int c = 0; c < 8; c++) {
            CHECK.due(when + ": line(" + c + ")", x.line(c), want[c]);
        }
    }

    private static void downTimes(BucketSheet x, int times) {
        for (int i = 0; i < times; i++) {
            x.down();
        }
    }

    private static void rowsOfWells() {
        CHECK.says("WELLS 0 to 47: 6 ROWS of 8 COLUMNS (WELL 8 times its ROW and its COLUMN; ROW 5 is the lowest).");
        for (int w = 0; w < 48; w++) {
            BucketSheet x = new BucketSheet();
            x.light(w, 9);
            x.expose(1);
            // so many times down, then it is in THE LINE below its COLUMN
            for (int r = w / 8; r < 6; r++) {
                CHECK.due("well(" + (8 * r + w % 8) + ", 0) from " + w, x.well(8 * r + w % 8, 0), 9);
                CHECK.due("now(1) from " + w, x.now(1), 0);
                x.down();
            }
            CHECK.due("line(" + w % 8 + ") from " + w, x.line(w % 8), 9);
            CHECK.due("now(0) from " + w, x.now(0), 0);
        }
        CHECK.says("Each has LIGHT (0 to 99 in a TICK; 0), a HOT part (0 to 99; 0), a TRAP (0 to 50; 0: none) and what that holds, CHARGE.");
        BucketSheet x = CHECK.told("cap 999;hot 0 99;trap 9 50;row 99 99 0 0 0 0 0 0;");
        x.expose(1);
        x.down();
        int[] wells = {8, 9, 10};
        int[][] want = {{198, 0, 0, 0, 0}, {49, 0, 0, 50, 50}, {0, 0, 0, 0, 0}};
        for (int i = 0; i < 3; i++) {
            for (int what = 0; what < 5; what++) {
                CHECK.due("well(" + wells[i] + ", " + what + ")", x.well(wells[i], what), want[i][what]);
            }
        }
        CHECK.due("well(0, 1)", x.well(0, 1), 99);
        CHECK.due("well(0, 2)", x.well(0, 2), 99);
    }

    private static void ticks() {
        CHECK.says("EXPOSED for t TICKS (1 to 999): all CHARGE in WELLS then. BAD.");
        CHECK.bounds("expose()", 1, 999, BucketSheet::new, (x, n) -> x.expose(n));
        BucketSheet x = CHECK.told("cap 999;");
        x.light(47, 1);
        CHECK.due("expose(1)", x.expose(1), 1);
        x.clear();
        CHECK.due("expose(999)", x.expose(999), 999);
        CHECK.due("well(47, 0)", x.well(47, 0), 999);
        CHECK.due("now(3)", x.now(3), 0);
        CHECK.due("expose(1000)", x.expose(1000), BucketSheet.BAD);
        CHECK.due("now(6)", x.now(6), 999);
        CHECK.due("expose(1) in the dark", new BucketSheet().expose(1), 0);
    }

    private static void comesIn() {
        CHECK.says("EXPOSED for t TICKS: first LIGHT, HOT and dark, summed, times t come into each WELL");
        BucketSheet x = CHECK.told("cap 999;dark 9;hot 47 99;");
        x.light(47, 99);
        CHECK.due("expose(1)", x.expose(1), 47 * 9 + 207);
        CHECK.due("well(47, 0)", x.well(47, 0), 207);
        CHECK.due("well(0, 0)", x.well(0, 0), 9);
        // the most that can come
        for (int w = 0; w < 48; w++) {
            x.light(w, 99);
        }
        x.clear();
        CHECK.due("expose(999)", x.expose(999), 48 * 999);
        CHECK.due("now(6)", x.now(6), 999L * (48 * 108 + 99));
        CHECK.due("now(3)", x.now(3), 999L * (48 * 108 + 99) - 48 * 999);
    }

    private static void aboveCap() {
        CHECK.says("what is above cap RUNS OVER");
        BucketSheet x = CHECK.told("cap 50;");
        x.light(16, 50);
        x.expose(1);
        column("at cap", x, 0, 0, 0, 50, 0, 0, 0);
        x.light(16, 1);
        x.expose(1);
        column("one above cap", x, 0, 0, 1, 50, 0, 0, 0);
        CHECK.due("now(3)", x.now(3), 0);
        x = CHECK.told("cap 50;drain;");
        x.light(16, 50);
        x.expose(1);
        CHECK.due("now(3) at cap", x.now(3), 0);
        x.light(16, 1);
        x.expose(1);
        CHECK.due("now(3) one above cap", x.now(3), 1);
    }

    /** With cap 1 each WELL has room for one: CHARGE of n goes to the first n - 1 of the order. */
    private static void wholeColumn() {
        CHECK.says("else it goes to WELLS of its COLUMN that have room: one above, one below, two above, two below, and so on");
        for (int w = 0; w < 48; w++) {
            for (int n = 1; n <= 8; n++) {
                BucketSheet x = CHECK.told("cap 1;");
                x.light(w, n);
                CHECK.due("expose(1) of well " + w + " with " + n, x.expose(1), Math.min(n, 6));
                int[] want = new int[6];
                want[w / 8] = 1;
                for (int i = 0; i < Math.min(n - 1, 5); i++) {
                    want[ORDER[w / 8][i]] = 1;
                }
                column("well " + w + " with " + n, x, w % 8, want);
                CHECK.due("now(3): what is left is LOST", x.now(3), Math.max(0, n - 6));
            }
        }
    }

    private static void asMuchAsThereIsRoom() {
        CHECK.says("into each as much as there is room; what is left is LOST.");
        for (int over = 0; over <= 16; over++) {
            BucketSheet x = CHECK.told("cap 10;");
            int[] light = {9, 6, 0, 10, 8, 2};
            light[2] = 10 + over;
            for (int r = 0; r < 6; r++) {
                x.light(8 * r + 7, light[r]);
            }
            x.expose(1);
            int[] want = light.clone();
            want[2] = 10;
            int left = over;
            // rooms: one above 4, one below none, two above 1, two below 2, three below 8
            int[] rooms = {1, 4, 0, 0, 2, 8};
            for (int r : ORDER[2]) {
                int taken = Math.min(left, rooms[r]);
                want[r] += taken;
                left -= taken;
            }
            column("over by " + over, x, 7, want);
            CHECK.due("now(3) over by " + over, x.now(3), over == 16 ? 1 : 0);
        }
    }

    private static void wellsByNumbers() {
        CHECK.says("then WELLS by numbers: what is above cap RUNS OVER");
        BucketSheet x = CHECK.told("cap 10;");
        int[] light = {0, 10, 13, 6, 13, 0};
        for (int r = 0; r < 6; r++) {
            x.light(8 * r, light[r]);
        }
        // ROW 2 is ahead: 3 into ROW 3; ROW 4: 1 into ROW 3, 2 below. (The other way round 2 would come into ROW 0.)
        x.expose(1);
        column("ROW 2 ahead of ROW 4", x, 0, 0, 10, 10, 10, 10, 2);
        // a WELL that has not run over yet has no room for another one's
        x = CHECK.told("cap 10;");
        x.light(0, 12);
        x.light(8, 13);
        x.expose(1);
        column("both over", x, 0, 10, 10, 5, 0, 0, 0);
    }

    private static void byDrain() {
        CHECK.says("by drain, it is LOST;");
        BucketSheet x = CHECK.told("cap 1;drain;");
        for (int w = 0; w < 48; w += 8) {
            x.light(w, w / 8);
        }
        CHECK.due("expose(1)", x.expose(1), 5);
        column("drained", x, 0, 0, 1, 1, 1, 1, 1);
        CHECK.due("now(3)", x.now(3), 1 + 2 + 3 + 4);
    }

    private static void rowsGoDown() {
        CHECK.says("all ROWS at once go one ROW down; ROW 5 into THE LINE (added to what is there;");
        BucketSheet x = new BucketSheet();
        for (int w = 0; w < 48; w++) {
            x.light(w, w + 1);
        }
        x.expose(1);
        int[] sums = new int[8];
        for (int step = 1; step <= 8; step++) {
            int all = 0;
            for (int c = 0; c < 8; c++) {
                sums[c] += step <= 6 ? 8 * (6 - step) + c + 1 : 0;
                all += sums[c];
            }
            CHECK.due("down() " + step, x.down(), all);
            line("down " + step, x, sums);
            for (int w = 0; w < 48; w++) {
                CHECK.due("well(" + w + ", 0) down " + step, x.well(w, 0), w < 8 * step ? 0 : w - 8 * step + 1);
            }
        }
        CHECK.due("down() of nothing", new BucketSheet().down(), 0);
    }

    private static void twiceCap() {
        CHECK.says("above twice cap: LOST); ROW 0 is empty.");
        for (int last = 8; last <= 10; last++) {
            BucketSheet x = CHECK.told("cap 10;");
            x.light(47, 10);
            x.light(39, 1);
            x.light(31, last);
            x.expose(1);
            downTimes(x, 2);
            CHECK.due("line(7)", x.line(7), 11);
            CHECK.due("down() with " + last, x.down(), Math.min(20, 11 + last));
            CHECK.due("line(7) with " + last, x.line(7), Math.min(20, 11 + last));
            CHECK.due("now(3) with " + last, x.now(3), Math.max(0, last - 9));
        }
        BucketSheet x = CHECK.told("cap 1;dark 1;");
        for (int i = 0; i < 9; i++) {
            x.expose(1);
            x.down();
            CHECK.due("ROW 0 is empty", x.well(0, 0) + x.well(7, 0), 0);
            CHECK.due("line(0) of cap 1", x.line(0), Math.min(2, i + 1));
        }
        // by drain nothing else: the line has twice cap too
        x = CHECK.told("cap 999;drain;dark 1;");
        for (int i = 0; i < 3; i++) {
            x.expose(999);
            x.down();
        }
        line("the most", x, 1998, 1998, 1998, 1998, 1998, 1998, 1998, 1998);
    }

    private static void trapsTake() {
        CHECK.says("where CHARGE came into a WELL, its TRAP takes what it lacks, as far as there is;");
        for (int w = 8; w < 48; w += 13) {
            for (int came = 1; came <= 3; came++) {
                BucketSheet x = CHECK.told("trap " + w + " 2;");
                x.light(w - 8, came);
                x.expose(1);
                x.down();
                CHECK.due("well(" + w + ", 4) of " + came, x.well(w, 4), Math.min(2, came));
                CHECK.due("well(" + w + ", 0) of " + came, x.well(w, 0), Math.max(0, came - 2));
            }
        }
        // one after another, till it lacks nothing
        BucketSheet x = CHECK.told("trap 40 50;");
        for (int r = 0; r < 5; r++) {
            x.light(8 * r, 20);
        }
        x.expose(1);
        int[] held = {20, 40, 50, 50, 50, 0};
        int[] there = {0, 0, 10, 20, 20, 50};
        for (int i = 0; i < 6; i++) {
            x.down();
            CHECK.due("well(40, 4) at " + i, x.well(40, 4), held[i]);
            CHECK.due("well(40, 0) at " + i, x.well(40, 0), there[i]);
            CHECK.due("now(2) at " + i, x.now(2), held[i]);
        }
        // a TRAP that took all that came has had CHARGE come: it does not let go
        x = CHECK.told("trap 8 50;");
        x.light(0, 1);
        for (int i = 1; i <= 3; i++) {
            x.expose(1);
            x.down();
            CHECK.due("well(8, 4)", x.well(8, 4), i);
            CHECK.due("well(8, 0)", x.well(8, 0), 0);
        }
    }

    private static void trapsLetGo() {
        CHECK.says("where none came, it lets go all that it holds.");
        BucketSheet x = CHECK.told("trap 16 50;");
        x.light(8, 50);
        x.expose(1);
        x.down();
        CHECK.due("well(16, 4)", x.well(16, 4), 50);
        x.down();
        CHECK.due("well(16, 4) let go", x.well(16, 4), 0);
        CHECK.due("well(16, 0) let go", x.well(16, 0), 50);
        CHECK.due("well(24, 0)", x.well(24, 0), 0);
        x.down();
        CHECK.due("it came no second time", x.well(16, 0), 0);
        column("let go, then handed on", x, 0, 0, 0, 0, 50, 0, 0);
        // nothing ever comes into ROW 0, nor into a TRAP by EXPOSED
        x = CHECK.told("trap 0 5;trap 47 5;dark 1;");
        x.expose(9);
        CHECK.due("now(2) exposed", x.now(2), 0);
        x.down();
        CHECK.due("well(0, 4)", x.well(0, 4), 0);
        CHECK.due("well(47, 4)", x.well(47, 4), 5);
        // a WELL without TRAP holds nothing
        CHECK.due("now(2)", x.now(2), 5);
    }

    private static void smearComesThen() {
        CHECK.says("Then smear: LIGHT times smear comes into each WELL;");
        BucketSheet x = CHECK.told("cap 999;smear 9;trap 0 50;trap 47 50;");
        x.light(0, 99);
        x.light(47, 99);
        x.light(7, 1);
        CHECK.due("down()", x.down(), 0);
        CHECK.due("well(0, 0)", x.well(0, 0), 891);
        CHECK.due("well(47, 0)", x.well(47, 0), 891);
        CHECK.due("well(7, 0)", x.well(7, 0), 9);
        CHECK.due("TRAPS come ahead of smear", x.now(2), 0);
        CHECK.due("now(6)", x.now(6), 891 + 891 + 9);
        CHECK.due("down(): smear comes behind the ROWS", x.down(), 891);
        // neither HOT nor dark is smear
        x = CHECK.told("smear 9;dark 9;hot 0 99;");
        x.down();
        CHECK.due("now(6) without LIGHT", x.now(6), 0);
        x = CHECK.told("smear 0;");
        x.light(0, 99);
        x.down();
        CHECK.due("now(6) with smear 0", x.now(6), 0);
    }

    private static void runsOverLikewise() {
        CHECK.says("then, WELLS by numbers, what is above cap RUNS OVER likewise, whatever it came from (what a TRAP let go, too;"
            + " with smear 0, too).");
        int[] letGo = {9, 10, 11, 30};
        for (int held : letGo) {
            for (int drain = 0; drain < 2; drain++) {
                BucketSheet x = trapFilled(held, drain == 1 ? "drain;" : "");
                x.down();
                int over = Math.max(0, held - 10);
                int above = drain == 1 ? 0 : Math.min(10, over);
                int below = drain == 1 ? 0 : over - above;
                column("let go " + held + " drain " + drain, x, 0, 0, above, Math.min(10, held), below, 0, 0);
                CHECK.due("now(3)", x.now(3), drain == 1 ? over : 0);
            }
        }
        // smear that comes on top: ROW 1 at cap stays, one above cap goes to ROW 0
        for (int light = 5; light <= 6; light++) {
            BucketSheet x = CHECK.told("cap 10;smear 1;");
            x.light(0, 5);
            x.expose(1);
            x.light(0, 0);
            x.light(8, light);
            x.down();
            column("smear " + light, x, 0, light - 5, 10, 0, 0, 0, 0);
        }
        BucketSheet x = CHECK.told("cap 10;smear 9;drain;");
        x.light(20, 99);
        x.down();
        CHECK.due("well(20, 0)", x.well(20, 0), 10);
        CHECK.due("now(3)", x.now(3), 881);
    }

    /** WELL 16 is empty, its TRAP holds so much, and cap is 10. */
    private static BucketSheet trapFilled(int held, String rule) {
        BucketSheet x = CHECK.told("cap 10;trap 16 50;" + rule);
        for (int left = held; left > 0; left -= 10) {
            x.light(8, Math.min(10, left));
            x.expose(1);
            x.down();
        }
        x.light(8, 0);
        CHECK.due("well(16, 4)", x.well(16, 4), held);
        CHECK.due("now(0)", x.now(0), 0);
        return x;
    }

    private static void downOnce() {
        CHECK.says("HANDED DOWN once: all CHARGE in THE LINE then.");
        CHECK.due("down() of nothing", new BucketSheet().down(), 0);
        BucketSheet x = CHECK.told("cap 10;dark 1;");
        x.expose(10);
        // 80 a ROW, twice cap is 160
        int[] want = {80, 160, 160, 160, 160, 160, 160, 160};
        for (int i = 0; i < 8; i++) {
            CHECK.due("down() " + i, x.down(), want[i]);
            CHECK.due("now(0) once down", x.now(0), Math.max(0, 400 - 80 * i));
            CHECK.due("now(1) once down", x.now(1), want[i]);
        }
        CHECK.due("now(3)", x.now(3), 480 - 160);
        // what is in THE LINE already counts, what a TRAP took does not
        x = CHECK.told("trap 40 3;");
        x.light(40, 1);
        x.light(32, 5);
        x.expose(1);
        CHECK.due("down() of 1", x.down(), 1);
        CHECK.due("down() of 2", x.down(), 3);
        CHECK.due("down() of what was let go", x.down(), 6);
        CHECK.due("down() of nothing more", x.down(), 6);
    }

    private static void readOnce() {
        CHECK.says("READ once: the VALUE.");
        CHECK.due("read() of nothing", new BucketSheet().read(), 0);
        BucketSheet x = CHECK.told("gain 2 1;");
        x.light(46, 3);
        x.expose(1);
        CHECK.due("read() ahead of down()", x.read(), 0);
        x.down();
        CHECK.due("read() of PLACE 7", x.read(), 0);
        CHECK.due("line(7)", x.line(7), 3);
        CHECK.due("read() of PLACE 6", x.read(), 6);
        CHECK.due("now(4)", x.now(4), 3);
        CHECK.due("read() behind all", x.read(), 0);
        CHECK.due("now(4)", x.now(4), 3);
    }

    private static void placesGoOn() {
        CHECK.says("PLACE 7 of THE LINE is read; the others go one on, PLACE 0 is empty.");
        BucketSheet x = new BucketSheet();
        for (int c = 0; c < 8; c++) {
            x.light(40 + c, c + 1);
        }
        x.expose(1);
        x.down();
        for (int i = 1; i <= 10; i++) {
            CHECK.due("read() " + i, x.read(), Math.max(0, 9 - i));
            for (int c = 0; c < 8; c++) {
                CHECK.due("line(" + c + ") behind " + i, x.line(c), Math.max(0, c + 1 - i));
            }
        }
        CHECK.due("now(4)", x.now(4), 36);
        CHECK.due("read() of nothing", new BucketSheet().read(), 0);
    }

    /** A PLACE with so much CHARGE, read out. */
    private static int valueOf(String rules, int many) {
        BucketSheet x = CHECK.told("cap 999;" + rules);
        int left = many;
        for (int r = 0; r < 6 && left > 0; r++) {
            int here = Math.min(99, left);
            x.light(8 * r + 7, here);
            left -= here;
        }
        x.expose(1);
        downTimes(x, 6);
        CHECK.due("line(7)", x.line(7), many);
        int value = x.read();
        CHECK.due("now(4) is CHARGE, not VALUE", x.now(4), many);
        return value;
    }

    private static void valueIsDividedDown() {
        CHECK.says("VALUE: CHARGE times gain by by, divided down, 255 at most.");
        for (int many = 253; many <= 257; many++) {
            CHECK.due("VALUE of " + many, valueOf("", many), Math.min(255, many));
            CHECK.due("VALUE of 2 by 2 of " + many, valueOf("gain 2 2;", many), Math.min(255, many));
            CHECK.due("VALUE of 1 by 2 of " + many, valueOf("gain 1 2;", many), many / 2);
        }
        for (int many = 0; many <= 12; many++) {
            CHECK.due("VALUE of 2 by 3 of " + many, valueOf("gain 2 3;", many), many * 2 / 3);
        }
        int[] around = {98, 99, 100, 197, 198};
        for (int many : around) {
            CHECK.due("VALUE of 1 by 99 of " + many, valueOf("gain 1 99;", many), many / 99);
        }
        CHECK.due("VALUE of 9 of 28", valueOf("gain 9 1;", 28), 252);
        CHECK.due("VALUE of 9 of 29", valueOf("gain 9 1;", 29), 255);
        BucketSheet x = CHECK.told("cap 999;gain 9 99;dark 1;");
        for (int i = 0; i < 3; i++) {
            x.expose(999);
            x.down();
        }
        CHECK.due("VALUE of 1998 times 9 by 99", x.read(), 181);
        CHECK.says("Divided down is to the next whole number below.");
        CHECK.due("VALUE of 9 by 10 of 11", valueOf("gain 9 10;", 11), 9);
    }

    private static void linePlaces() {
        CHECK.says("CHARGE of a PLACE (0 to 7) of THE LINE. BAD.");
        CHECK.bounds("line()", 0, 7, BucketSheet::new, (x, n) -> x.line(n));
        CHECK.says("THE LINE has 8 PLACES with CHARGE, one below each COLUMN.");
        for (int c = 0; c < 8; c++) {
            BucketSheet x = new BucketSheet();
            x.light(40 + c, 5);
            x.expose(1);
            CHECK.due("down()", x.down(), 5);
            int[] want = new int[8];
            want[c] = 5;
            line("column " + c, x, want);
        }
    }

    private static void sums() {
        CHECK.says("0 CHARGE in WELLS, 1 in THE LINE, 2 held by TRAPS, 3 LOST so far, 4 CHARGE read so far, 5 WELLS that are full"
            + " (cap; how many), 6 all that ever came. BAD.");
        CHECK.bounds("now()", 0, 6, BucketSheet::new, (x, n) -> x.now(n));
        BucketSheet x = CHECK.told("cap 10;trap 46 3;smear 1;");
        x.light(38, 15);
        x.light(47, 4);
        x.expose(1);
        // WELL 38 runs over into 30
        sums("exposed", x, 19, 0, 0, 0, 0, 1, 19);
        x.down();
        // the TRAP of 46 took 3 of 10; smear came into 38 (15, it runs over into 30) and 47 (4)
        sums("handed down", x, 31, 4, 3, 0, 0, 2, 38);
        x.read();
        sums("read", x, 31, 0, 3, 0, 4, 2, 38);
        x.down();
        // 15 above cap in 38: 10 into 30, 46 is full, 5 into 22
        sums("handed down again", x, 39, 11, 3, 0, 4, 3, 57);
        x.light(6, 99);
        x.expose(1);
        // 118 in COLUMN 6: 15 in 38, 99 in 6, 4 in 47 beside; there was room for 10, 10, 5 there
        sums("exposed again", x, 68, 11, 3, 89, 4, 6, 175);
    }

    private static void sums(String when, BucketSheet x, long... want) {
        for (int what = 0; what < 7; what++) {
            CHECK.due(when + ": now(" + what + ")", x.now(what), want[what]);
        }
    }

    private static void fullWells() {
        CHECK.says("5 WELLS that are full (cap; how many)");
        BucketSheet x = CHECK.told("cap 99;");
        for (int w = 0; w < 48; w++) {
            x.light(w, 98);
        }
        x.expose(1);
        CHECK.due("now(5) one below cap", x.now(5), 0);
        for (int w = 0; w < 48; w++) {
            x.light(w, w < 47 ? 0 : 1);
        }
        x.expose(1);
        CHECK.due("now(5) one at cap", x.now(5), 1);
        for (int w = 0; w < 48; w++) {
            x.light(w, 1);
        }
        x.expose(1);
        CHECK.due("now(5) all", x.now(5), 48);
        CHECK.due("now(3)", x.now(3), 1);
        // PLACES of THE LINE are no WELLS
        x.down();
        CHECK.due("now(5) handed down", x.now(5), 40);
    }

    private static void cleared() {
        CHECK.says("WELLS, THE LINE, TRAPS are empty; the sums are 0: all CHARGE that there was (WELLS, THE LINE, TRAPS).");
        BucketSheet x = CHECK.told("cap 10;trap 47 5;");
        x.light(0, 75);
        x.light(39, 8);
        x.light(46, 2);
        x.light(47, 3);
        x.expose(1);
        x.down();
        x.read();
        sums("ahead of clear()", x, 53, 12, 5, 15, 3, 5, 88);
        CHECK.due("clear()", x.clear(), 70);
        sums("behind clear()", x, 0, 0, 0, 0, 0, 0, 0);
        CHECK.due("clear() of nothing", x.clear(), 0);
        CHECK.due("clear() of a new object", new BucketSheet().clear(), 0);
        String text = "cap 10;trap 47 5;smear 2;row 1 2 3 4 5 6 7 8;clock 3 6;hot 3 3;";
        CHECK.alike("LIGHT and what was told stay", () -> {
            BucketSheet y = CHECK.told(text);
            y.expose(3);
            downTimes(y, 3);
            y.read();
            y.clear();
            return y;
        }, () -> CHECK.told(text));
    }
}
