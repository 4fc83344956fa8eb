/** The edges of SHEETS in "Terms" 2 and of promises 32 to 38: images, sheets, counts. */
public final class SheetsEdgesTest {
    private static final Check CHECK = new Check("SheetsEdgesTest");
    private static final int NULL = 1, INDEX = 2, CAST = 3;

    public static void main(String[] args) {
        imagesAreKept();
        imagesComeBack();
        imagesAreOfCharge();
        sheetsAreMade();
        newRows();
        cellsAreLaid();
        lowestBits();
        readsBounds();
        lightsOneBehindAnother();
        wholeOnesAheadCome();
        faultsOfTheMachine();
        ofNoLights();
        refusedByLight();
        theFirstMet();
        tornStays();
        counts();
        CHECK.end();
    }

    private static BucketSheet withSheet(int lane, int... cells) {
        BucketSheet x = new BucketSheet();
        x.sheet(0, lane, cells.length);
        for (int i = 0; i < cells.length; i++) {
            CHECK.due("lay(0, " + i + ", " + cells[i] + ")", x.lay(0, i, cells[i]), 1);
        }
        return x;
    }

    private static void imagesAreKept() {
        CHECK.says("whether there was one (1, 0). BAD.");
        CHECK.bounds("keep()", 0, 1, BucketSheet::new, (x, n) -> x.keep(n));
        BucketSheet x = new BucketSheet();
        CHECK.due("keep(1)", x.keep(1), 0);
        CHECK.due("count(3)", x.count(3), 1);
        CHECK.due("keep(1) again", x.keep(1), 1);
        CHECK.due("count(3) again", x.count(3), 1);
        CHECK.due("keep(0)", x.keep(0), 0);
        CHECK.due("count(3) both", x.count(3), 2);
        CHECK.due("keep(0) again", x.keep(0), 1);
        CHECK.due("keep(2)", x.keep(2), BucketSheet.BAD);
        CHECK.due("count(3) both", x.count(3), 2);
        x.back(0);
        CHECK.due("keep(0) behind back(0)", x.keep(0), 1);
        Check.tell(x, "");
        CHECK.due("keep(0) behind a text", x.keep(0), 0);
    }

    private static void imagesComeBack() {
        CHECK.says("All is as IMAGE i: all CHARGE in WELLS. BAD; STATE: there is none.");
        BucketSheet x = new BucketSheet();
        for (int i : new int[] {-2, -1, 2, 3, Integer.MIN_VALUE, Integer.MAX_VALUE}) {
            CHECK.due("back(" + i + ")", x.back(i), BucketSheet.BAD);
        }
        CHECK.due("back(0)", x.back(0), BucketSheet.STATE);
        CHECK.due("back(1)", x.back(1), BucketSheet.STATE);
        x.keep(1);
        CHECK.due("back(0) beside 1", x.back(0), BucketSheet.STATE);
        CHECK.due("back(1) of nothing", x.back(1), 0);
        CHECK.due("back(1) again", x.back(1), 0);
        x.light(47, 9);
        x.expose(1);
        CHECK.due("keep(0)", x.keep(0), 0);
        CHECK.due("back(1)", x.back(1), 0);
        CHECK.due("well(47, 1)", x.well(47, 1), 0);
        CHECK.due("back(0)", x.back(0), 9);
        CHECK.due("well(47, 1)", x.well(47, 1), 9);
        // clear() leaves IMAGES
        x.clear();
        CHECK.due("back(0) behind clear()", x.back(0), 9);
        CHECK.due("now(6)", x.now(6), 9);
    }

    private static BucketSheet scene() {
        BucketSheet x = CHECK.told("cap 30;trap 47 9;trap 14 3;smear 2;dark 1;row 9 1 2 3 4 5 6 7;");
        x.expose(3);
        x.down();
        x.down();
        x.read();
        return x;
    }

    private static void imagesAreOfCharge() {
        CHECK.says("IMAGE i (0, 1) is all CHARGE (WELLS, THE LINE, TRAPS), LIGHT, sums:");
        for (int i = 0; i < 2; i++) {
            int image = i;
            CHECK.alike("all is back of " + i, () -> {
                BucketSheet x = scene();
                x.keep(image);
                change(x);
                x.back(image);
                return x;
            }, () -> {
                BucketSheet x = scene();
                x.keep(image);
                return x;
            });
            // what is not of an IMAGE does not come back
            BucketSheet x = scene();
            x.keep(i);
            x.word(5);
            x.sheet(0, 1, 3);
            x.feed(0);
            x.reads(1, 0, 0, 1);
            x.back(i);
            CHECK.due("THE ROUND stays", x.words(0), 5);
            CHECK.due("a SHEET stays", x.count(5), 3);
            CHECK.due("THE TAPE stays", x.count(4), 8);
            CHECK.due("torn() stays", x.torn(), NULL);
        }
    }

    private static void change(BucketSheet x) {
        for (int w = 0; w < 48; w++) {
            x.light(w, 99 - w);
        }
        x.expose(9);
        x.down();
        x.read();
        x.clear();
        x.expose(1);
    }

    private static void sheetsAreMade() {
        CHECK.says("A SHEET is a new row of CELLS 0: 1. BAD: also n above 40; -14 (SIZE): n below 0.");
        CHECK.bounds("sheet(.., 0, 1)", 0, 3, BucketSheet::new, (x, n) -> x.sheet(n, 0, 1));
        CHECK.bounds("sheet(0, .., 1)", 0, 2, BucketSheet::new, (x, n) -> x.sheet(0, n, 1));
        for (int n = -3; n <= 43; n++) {
            BucketSheet x = new BucketSheet();
            CHECK.due("sheet(0, 2, " + n + ")", x.sheet(0, 2, n), n < 0 ? -14 : n > 40 ? BucketSheet.BAD : 1);
            CHECK.due("count(5) of " + n, x.count(5), n < 0 || n > 40 ? BucketSheet.NONE : n);
        }
        BucketSheet x = new BucketSheet();
        CHECK.due("sheet(0, 0, min)", x.sheet(0, 0, Integer.MIN_VALUE), -14);
        CHECK.due("sheet(0, 0, max)", x.sheet(0, 0, Integer.MAX_VALUE), BucketSheet.BAD);
        // BAD fits ahead of SIZE
        CHECK.due("sheet(-1, 0, -1)", x.sheet(-1, 0, -1), BucketSheet.BAD);
        CHECK.due("sheet(4, 0, -1)", x.sheet(4, 0, -1), BucketSheet.BAD);
        CHECK.due("sheet(3, -1, -1)", x.sheet(3, -1, -1), BucketSheet.BAD);
        CHECK.due("sheet(3, 3, -1)", x.sheet(3, 3, -1), BucketSheet.BAD);
        CHECK.due("torn() is of reads() alone", x.torn(), 0);
    }

    private static void newRows() {
        CHECK.says("SHEETS 0 to 3 are rows of BYTES (lane 0), SHORTS (1), INTS (2), all with a sign, with 0 to 40 CELLS, or nothing"
            + " (at first).");
        BucketSheet x = new BucketSheet();
        for (int k = 0; k < 4; k++) {
            CHECK.due("lay(" + k + ", 0, 0) of nothing", x.lay(k, 0, 0), -11);
            CHECK.due("sheet(" + k + ", 0, 0)", x.sheet(k, 0, 0), 1);
            CHECK.due("lay(" + k + ", 0, 0) of no cells", x.lay(k, 0, 0), -12);
        }
        // of one SHEET nothing comes into another
        x.sheet(1, 0, 2);
        x.sheet(2, 0, 2);
        x.lay(1, 0, 7);
        x.lay(1, 1, 70);
        CHECK.due("reads(2, 0, 0, 1)", x.reads(2, 0, 0, 1), 1);
        CHECK.due("well(7, 1)", x.well(7, 1), 0);
        CHECK.due("reads(1, 0, 0, 1)", x.reads(1, 0, 0, 1), 1);
        CHECK.due("well(7, 1)", x.well(7, 1), 70);
        // a new row in place of one: all CELLS are 0, those beyond the shorter one too
        x.sheet(3, 2, 40);
        for (int i = 0; i < 40; i++) {
            x.lay(3, i, 30);
        }
        x.sheet(3, 2, 1);
        CHECK.due("lay(3, 1, 1) of one cell", x.lay(3, 1, 1), -12);
        x.sheet(3, 1, 40);
        x.light(0, 5);
        CHECK.due("reads(3, 1, 0, 20)", x.reads(3, 1, 0, 20), 20);
        CHECK.due("well(0, 1) is read as 0", x.well(0, 1), 0);
        CHECK.due("well(30, 1)", x.well(30, 1), 0);
        CHECK.due("reads(3, 2, 0, 1): the lane is another one", x.reads(3, 2, 0, 1), 0);
        CHECK.due("torn()", x.torn(), CAST);
    }

    private static void cellsAreLaid() {
        CHECK.says("CELL i of a SHEET becomes v (its lowest bits): 1. BAD: k; -10 less the FAULT: NULL, INDEX.");
        CHECK.bounds("lay(.., 0, 0)", 0, 3, BucketSheet::new, (x, n) -> x.lay(n, 0, 0));
        CHECK.bounds("lay(.., -1, 0)", 0, 3, BucketSheet::new, (x, n) -> x.lay(n, -1, 0));
        for (int n = 0; n <= 40; n++) {
            BucketSheet x = new BucketSheet();
            x.sheet(2, 0, n);
            for (int i = -2; i <= 42; i++) {
                CHECK.due("lay(2, " + i + ", 1) of " + n, x.lay(2, i, 1), i < 0 || i >= n ? -12 : 1);
            }
            CHECK.due("lay(2, min, 1)", x.lay(2, Integer.MIN_VALUE, 1), -12);
            CHECK.due("lay(2, max, 1)", x.lay(2, Integer.MAX_VALUE, 1), -12);
            CHECK.due("lay(2, 2^8, 1)", x.lay(2, 256, 1), -12);
        }
        // NULL fits ahead of INDEX, k ahead of both
        BucketSheet x = new BucketSheet();
        CHECK.due("lay(0, -1, 0) of nothing", x.lay(0, -1, 0), -11);
        CHECK.due("lay(0, 40, 0) of nothing", x.lay(0, 40, 0), -11);
        CHECK.due("torn() is of reads() alone", x.torn(), 0);
    }

    /** The LIGHT that a CELL gives, -20 where light() refuses it. */
    private static int asLight(int lane, int v) {
        BucketSheet x = withSheet(lane, 3, v);
        int came = x.reads(0, lane, 0, 1);
        return came == 1 ? x.well(3, 1) : came;
    }

    private static void lowestBits() {
        CHECK.says("(its lowest bits)");
        for (int light = 0; light <= 99; light += 33) {
            int[] more = {0, 256, 65536, -256, -65536, 0x7f000000, Integer.MIN_VALUE};
            for (int bits : more) {
                CHECK.due("a byte of " + (bits + light), asLight(0, bits + light), light);
                CHECK.due("a short of " + (bits + light), asLight(1, bits + light), (bits & 0xffff) == 0 ? light : -20);
                CHECK.due("an int of " + (bits + light), asLight(2, bits + light), bits == 0 ? light : -20);
            }
        }
        CHECK.says("all with a sign");
        // 128 and on are below 0 in a byte, 32768 and on in a short
        for (int lane = 0; lane < 3; lane++) {
            CHECK.due("-1 of lane " + lane, asLight(lane, -1), -20);
            CHECK.due("99 of lane " + lane, asLight(lane, 99), 99);
            CHECK.due("100 of lane " + lane, asLight(lane, 100), -20);
            CHECK.due("127 of lane " + lane, asLight(lane, 127), -20);
            CHECK.due("128 of lane " + lane, asLight(lane, 128), -20);
            CHECK.due("255 of lane " + lane, asLight(lane, 255), -20);
            CHECK.due("32768 + 5 of lane " + lane, asLight(lane, 32768 + 5), lane == 0 ? 5 : -20);
            CHECK.due("65535 of lane " + lane, asLight(lane, 65535), -20);
            CHECK.due("min of lane " + lane, asLight(lane, Integer.MIN_VALUE), lane < 2 ? 0 : -20);
            CHECK.due("max of lane " + lane, asLight(lane, Integer.MAX_VALUE), -20);
        }
    }

    private static void readsBounds() {
        CHECK.says("BAD: k, lane, n;");
        CHECK.bounds("reads(.., 0, 0, 1)", 0, 3, BucketSheet::new, (x, n) -> x.reads(n, 0, 0, 1));
        CHECK.bounds("reads(0, .., 0, 1)", 0, 2, BucketSheet::new, (x, n) -> x.reads(0, n, 0, 1));
        CHECK.bounds("reads(0, 0, 0, ..)", 0, 20, BucketSheet::new, (x, n) -> x.reads(0, 0, 0, n));
        CHECK.bounds("reads(.., 0, 0, 0)", 0, 3, BucketSheet::new, (x, n) -> x.reads(n, 0, 0, 0));
        CHECK.bounds("reads(0, .., 0, 0)", 0, 2, BucketSheet::new, (x, n) -> x.reads(0, n, 0, 0));
        CHECK.bounds("reads(0, 0, 0, ..) of 40 cells", 0, 20, () -> withSheet(0, new int[40]), (x, n) -> x.reads(0, 0, 0, n));
        // f is never BAD: what it does not fit is the machine's
        for (int f : new int[] {-1, 40, Integer.MIN_VALUE, Integer.MAX_VALUE}) {
            CHECK.due("reads(0, 0, " + f + ", 1)", withSheet(0, new int[40]).reads(0, 0, f, 1), 0);
        }
    }

    private static void lightsOneBehindAnother() {
        CHECK.says("n (0 to 20) LIGHTS (WELL, LIGHT) are read of a SHEET taken as of a lane, two CELLS each from CELL f on, one behind"
            + " another as by light(): how many came.");
        for (int lane = 0; lane < 3; lane++) {
            for (int n = 0; n <= 20; n++) {
                int[] cells = new int[40];
                for (int i = 0; i < 20; i++) {
                    cells[2 * i] = 47 - i;
                    cells[2 * i + 1] = 99 - i;
                }
                BucketSheet x = withSheet(lane, cells);
                CHECK.due("reads(0, " + lane + ", 0, " + n + ")", x.reads(0, lane, 0, n), n);
                CHECK.due("torn()", x.torn(), 0);
                for (int w = 27; w < 48; w++) {
                    CHECK.due("well(" + w + ", 1) of " + n, x.well(w, 1), 47 - w < n ? 99 - (47 - w) : 0);
                }
                CHECK.due("count(6)", x.count(6), n);
            }
        }
        // the last one of a WELL stays; LIGHT 0 and 99, WELL 0 and 47
        BucketSheet x = withSheet(0, 0, 99, 47, 0, 0, 98, 47, 99);
        CHECK.due("reads(0, 0, 0, 4)", x.reads(0, 0, 0, 4), 4);
        CHECK.due("well(0, 1)", x.well(0, 1), 98);
        CHECK.due("well(47, 1)", x.well(47, 1), 99);
        // from an odd CELL on
        x = withSheet(2, 9, 1, 2, 3, 4);
        CHECK.due("reads(0, 2, 1, 2)", x.reads(0, 2, 1, 2), 2);
        CHECK.due("well(1, 1)", x.well(1, 1), 2);
        CHECK.due("well(3, 1)", x.well(3, 1), 4);
        CHECK.due("well(9, 1)", x.well(9, 1), 0);
        // CHARGE is not looked at
        x.expose(1);
        long came = x.now(6);
        CHECK.due("reads(0, 2, 0, 1)", x.reads(0, 2, 0, 1), 1);
        CHECK.due("now(6)", x.now(6), came);
    }

    private static void wholeOnesAheadCome() {
        CHECK.says("What the machine refuses: those that were whole ahead come (its FAULT is asked by torn();");
        for (int length = 0; length <= 8; length++) {
            for (int f = -2; f <= 9; f++) {
                for (int n = 1; n <= 5; n++) {
                    int[] cells = new int[length];
                    for (int i = 0; i < length; i++) {
                        cells[i] = i + 1;
                    }
                    BucketSheet x = withSheet(1, cells);
                    int whole = f < 0 ? 0 : Math.min(n, Math.max(0, (length - f) / 2));
                    String call = "reads(0, 1, " + f + ", " + n + ") of " + length;
                    CHECK.due(call, x.reads(0, 1, f, n), whole);
                    CHECK.due("torn() of " + call, x.torn(), whole == n ? 0 : INDEX);
                    CHECK.due("count(6) of " + call, x.count(6), whole);
                    for (int i = 0; i < whole; i++) {
                        CHECK.due("well of " + call, x.well(f + 2 * i + 1, 1), f + 2 * i + 2);
                    }
                }
            }
        }
        int[] far = {Integer.MIN_VALUE, Integer.MIN_VALUE + 1, -40, 40, 41, Integer.MAX_VALUE - 39, Integer.MAX_VALUE - 1,
            Integer.MAX_VALUE};
        for (int f : far) {
            BucketSheet x = withSheet(0, new int[40]);
            CHECK.due("reads(0, 0, " + f + ", 20)", x.reads(0, 0, f, 20), 0);
            CHECK.due("torn() at " + f, x.torn(), INDEX);
        }
        // half a LIGHT is not whole: light() does not see it, so what it would refuse is no matter
        BucketSheet x = withSheet(2, 5, 6, 1000);
        CHECK.due("reads(0, 2, 0, 2)", x.reads(0, 2, 0, 2), 1);
        CHECK.due("torn()", x.torn(), INDEX);
        CHECK.due("well(5, 1)", x.well(5, 1), 6);
    }

    private static void faultsOfTheMachine() {
        CHECK.says("A FAULT is what the machine finds: 1 NULL (nothing), 2 INDEX, 3 CAST (another lane), 4 SIZE (below 0).");
        for (int made = 0; made < 3; made++) {
            for (int lane = 0; lane < 3; lane++) {
                BucketSheet x = withSheet(made, 5, 6);
                CHECK.due("reads of " + made + " as " + lane, x.reads(0, lane, 0, 1), made == lane ? 1 : 0);
                CHECK.due("torn()", x.torn(), made == lane ? 0 : CAST);
                CHECK.due("well(5, 1)", x.well(5, 1), made == lane ? 6 : 0);
                // the row is taken as of a lane ahead of any CELL, so of no CELLS too
                x = withSheet(made);
                CHECK.due("reads of none of " + made + " as " + lane, x.reads(0, lane, 0, 1), 0);
                CHECK.due("torn()", x.torn(), made == lane ? INDEX : CAST);
                CHECK.due("reads at -1 of " + made + " as " + lane, x.reads(0, lane, -1, 1), 0);
                CHECK.due("torn()", x.torn(), made == lane ? INDEX : CAST);
                // nothing is of any lane
                CHECK.due("reads of nothing as " + lane, x.reads(1, lane, -1, 20), 0);
                CHECK.due("torn()", x.torn(), NULL);
            }
        }
    }

    private static void ofNoLights() {
        CHECK.says("of n 0: 0, no FAULT, whatever the SHEET is");
        for (int lane = 0; lane < 3; lane++) {
            for (int f : new int[] {0, -1, 40, Integer.MAX_VALUE}) {
                BucketSheet x = withSheet(1, 1000, 1000);
                x.reads(3, 0, 0, 1);
                CHECK.due("torn() ahead", x.torn(), NULL);
                CHECK.due("reads(0, " + lane + ", " + f + ", 0)", x.reads(0, lane, f, 0), 0);
                CHECK.due("torn() of n 0", x.torn(), 0);
                x.reads(3, 0, 0, 1);
                CHECK.due("reads(3, " + lane + ", " + f + ", 0) of nothing", x.reads(3, lane, f, 0), 0);
                CHECK.due("torn() of n 0", x.torn(), 0);
            }
        }
    }

    private static void refusedByLight() {
        CHECK.says("-20 less i (from 0 on): the i-th, whole, is refused by light(): then none came;");
        int[][] wrong = {{48, 0}, {-1, 0}, {0, 100}, {0, -1}, {48, 100}, {127, 0}, {-128, 0}, {47, 127}};
        for (int[] pair : wrong) {
            for (int at = 0; at < 20; at++) {
                int[] cells = new int[40];
                for (int i = 0; i < 20; i++) {
                    cells[2 * i] = i == at ? pair[0] : i;
                    cells[2 * i + 1] = i == at ? pair[1] : 9;
                }
                BucketSheet x = withSheet(0, cells);
                CHECK.due("reads(0, 0, 0, 20) wrong at " + at, x.reads(0, 0, 0, 20), -20 - at);
                CHECK.due("count(6)", x.count(6), 0);
                CHECK.due("reads(0, 0, 0, " + at + ")", x.reads(0, 0, 0, at), at);
                CHECK.due("count(6) of those ahead", x.count(6), at);
                CHECK.due("reads from the wrong one on", x.reads(0, 0, 2 * at, 1), -20);
            }
        }
        // what they were stays, of a WELL that is told twice too
        BucketSheet x = withSheet(2, 5, 6, 5, 7, 48, 0);
        x.light(5, 50);
        CHECK.due("reads(0, 2, 0, 3)", x.reads(0, 2, 0, 3), -22);
        CHECK.due("well(5, 1)", x.well(5, 1), 50);
    }

    private static void theFirstMet() {
        CHECK.says("then none came; the first met.");
        // refused by light() ahead of the end of the row, and behind another one that is refused
        BucketSheet x = withSheet(0, 1, 1, 48, 0, 0, 100, 7);
        CHECK.due("reads(0, 0, 0, 20)", x.reads(0, 0, 0, 20), -21);
        CHECK.due("count(6)", x.count(6), 0);
        CHECK.due("torn()", x.torn(), 0);
        // the machine's FAULT ahead of light(): another lane, at -1
        CHECK.due("reads(0, 1, 2, 1)", x.reads(0, 1, 2, 1), 0);
        CHECK.due("torn()", x.torn(), CAST);
        CHECK.due("reads(0, 0, -2, 5)", x.reads(0, 0, -2, 5), 0);
        CHECK.due("torn()", x.torn(), INDEX);
    }

    private static void tornStays() {
        CHECK.says("The FAULT of the latest reads() that answered 0 or more; 0 (one that is refused leaves it).");
        BucketSheet x = withSheet(0, 1, 1, 48, 0);
        CHECK.due("torn() at first", x.torn(), 0);
        int[] lanes = {1, 0, 0};
        int[] sheets = {0, 0, 1};
        int[] from = {0, 3, 0};
        int[] faults = {CAST, INDEX, NULL};
        for (int i = 0; i < 3; i++) {
            CHECK.due("reads", x.reads(sheets[i], lanes[i], from[i], 1), 0);
            CHECK.due("torn()", x.torn(), faults[i]);
            CHECK.due("reads(0, 0, 0, 2)", x.reads(0, 0, 0, 2), -21);
            CHECK.due("reads(4, 0, 0, 1)", x.reads(4, 0, 0, 1), BucketSheet.BAD);
            CHECK.due("reads(0, 3, 0, 1)", x.reads(0, 3, 0, 1), BucketSheet.BAD);
            CHECK.due("reads(0, 0, 0, 21)", x.reads(0, 0, 0, 21), BucketSheet.BAD);
            x.sheet(3, 0, -1);
            x.lay(3, 0, 0);
            x.lay(0, -1, 0);
            CHECK.due("torn() stays", x.torn(), faults[i]);
            CHECK.due("torn() is asked again", x.torn(), faults[i]);
        }
        CHECK.due("reads(0, 0, 0, 1)", x.reads(0, 0, 0, 1), 1);
        CHECK.due("torn() of the latest", x.torn(), 0);
    }

    private static void counts() {
        CHECK.says("How many: 0 HOT WELLS, 1 TRAPS, 2 WORDS, 3 IMAGES, 4 bytes on THE TAPE, 5 CELLS of SHEET 0 (NONE: nothing), 6 WELLS"
            + " with LIGHT. BAD.");
        CHECK.bounds("count()", 0, 6, BucketSheet::new, (x, n) -> x.count(n));
        StringBuilder hot = new StringBuilder();
        StringBuilder trap = new StringBuilder();
        // 40 of them are as many as THE TAPE has room for
        for (int many = 0; many <= 40; many++) {
            CHECK.due("count(0) of " + many, CHECK.told(hot.toString()).count(0), many);
            CHECK.due("count(1) of " + many, CHECK.told(trap.toString()).count(1), many);
            hot.append("hot").append(47 - many).append(" 1;");
            trap.append("trap").append(47 - many).append(" 1;");
        }
        BucketSheet x = new BucketSheet();
        for (int w = 0; w < 48; w++) {
            x.light(w, 1);
            CHECK.due("count(6)", x.count(6), w + 1);
        }
        for (int w = 0; w < 48; w++) {
            x.light(w, 0);
            CHECK.due("count(6)", x.count(6), 47 - w);
        }
        // SHEET 0, no other one
        x.sheet(1, 0, 5);
        CHECK.due("count(5) beside SHEET 1", x.count(5), BucketSheet.NONE);
        x.sheet(0, 0, 0);
        CHECK.due("count(5) of no cells", x.count(5), 0);
        x.sheet(0, 0, 40);
        CHECK.due("count(5) of all", x.count(5), 40);
        x.sheet(0, 0, -1);
        CHECK.due("count(5) stays", x.count(5), 40);
    }
}
