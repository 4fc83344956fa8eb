/** Promises 15 to 19: picture, shades, late, smear, spoiled. */
public final class PictureTest {
    private static final Check CHECK = new Check("PictureTest");
    private static final String ROWS = "row 1 2 3 4 5 6 7 8;row 0 0 0 0 0 0 0 0;row 9 8 7 6 5 4 3 2;"
        + "row 0 1 0 1 0 1 0 1;row 2 2 2 2 2 2 2 2;row 50 0 0 0 0 0 0 60;";

    public static void main(String[] args) {
        plainPicture();
        binned();
        shaded();
        allStays();
        wrongNumbers();
        lateCharge();
        smearOfWells();
        spoiledValues();
        CHECK.end();
    }

    private static void plainPicture() {
        BucketSheet x = CHECK.told(ROWS);
        x.expose(1);
        int[][] light = new int[6][8];
        for (int w = 0; w < 48; w++) {
            light[w / 8][w % 8] = x.well(w, 1);
        }
        for (int row = 0; row < 6; row++) {
            for (int column = 0; column < 8; column++) {
                CHECK.due("picture(1, 1, " + row + ", " + column + ")",
                    x.picture(1, 1, row, column), light[5 - row][7 - column]);
            }
        }
    }

    private static void binned() {
        BucketSheet x = CHECK.told(ROWS + "gain 3 2;");
        x.expose(1);
        // rows 5 and 4 of columns 7 and 6: 60 + 0 + 2 + 2
        CHECK.due("picture(2, 2, 0, 0)", x.picture(2, 2, 0, 0), 64 * 3 / 2);
        CHECK.due("picture(2, 2, 2, 3)", x.picture(2, 2, 2, 3), 3 * 3 / 2);
        CHECK.due("picture(2, 1, 0, 7)", x.picture(2, 1, 0, 7), 52 * 3 / 2);
        CHECK.due("picture(1, 2, 0, 0)", x.picture(1, 2, 0, 0), 60 * 3 / 2);
        // the last of three has two columns
        CHECK.due("picture(1, 3, 5, 0)", x.picture(1, 3, 5, 0), 21 * 3 / 2);
        CHECK.due("picture(1, 3, 5, 1)", x.picture(1, 3, 5, 1), 12 * 3 / 2);
        CHECK.due("picture(1, 3, 5, 2)", x.picture(1, 3, 5, 2), 3 * 3 / 2);
        CHECK.due("picture(3, 1, 1, 0)", x.picture(3, 1, 1, 0), 10 * 3 / 2);
        CHECK.due("picture(3, 3, 1, 2)", x.picture(3, 3, 1, 2), 20 * 3 / 2);
        // the sum comes ahead of the value, the line keeps twice cap alone
        x = CHECK.told("cap 10;dark 3;gain 1 2;");
        x.expose(3);
        CHECK.due("9 / 2", x.picture(1, 1, 0, 0), 4);
        CHECK.due("18 / 2", x.picture(1, 2, 0, 0), 9);
        CHECK.due("18 / 2", x.picture(2, 1, 0, 0), 9);
        CHECK.due("27 is above 20", x.picture(3, 1, 0, 0), 10);
        CHECK.due("60 / 2", x.picture(3, 3, 0, 0), 30);
    }

    private static void shaded() {
        BucketSheet x = CHECK.told(ROWS + "gain 5 1;");
        x.expose(1);
        CHECK.due("shades(1, 1, 0)", x.shades(1, 1, 0), 255);
        CHECK.due("shades(1, 1, 1)", x.shades(1, 1, 1), 0);
        CHECK.due("shades(1, 1, 2)", x.shades(1, 1, 2), 5 * (36 + 44 + 4 + 16) + 250 + 255);
        CHECK.due("shades(1, 1, 3)", x.shades(1, 1, 3), 1);
        CHECK.due("shades(2, 1, 1)", x.shades(2, 1, 1), 5);
        CHECK.due("shades(2, 1, 3)", x.shades(2, 1, 3), 2);
        CHECK.due("shades(3, 3, 0)", x.shades(3, 3, 0), 255);
        CHECK.due("shades(3, 3, 1)", x.shades(3, 3, 1), 5 * 7);
        // 68, 7, 55 below, 30, 30, 20 above
        CHECK.due("shades(3, 3, 2)", x.shades(3, 3, 2), 255 + 35 + 255 + 5 * (30 + 30 + 20));
        CHECK.due("shades(3, 3, 3)", x.shades(3, 3, 3), 2);
        // a value that an earlier, greater picture had is gone
        x.clear();
        CHECK.due("shades(3, 3, 0) empty", x.shades(3, 3, 0), 0);
        CHECK.due("shades(1, 1, 2) empty", x.shades(1, 1, 2), 0);
    }

    private static void allStays() {
        BucketSheet x = CHECK.told(ROWS + "trap 9 5;trap 44 3;smear 1;");
        x.expose(2);
        x.down();
        long[] ahead = new long[7];
        for (int what = 0; what < 7; what++) {
            ahead[what] = x.now(what);
        }
        int lineAhead = x.line(7);
        int first = x.picture(1, 1, 0, 0);
        // the line counts as empty; twice 2 came from row 4, and smear of 60 fell on it
        CHECK.due("picture of row 4", first, 4 + 60);
        x.shades(2, 2, 2);
        x.late(3);
        x.spoiled(0);
        for (int what = 0; what < 7; what++) {
            CHECK.due("now(" + what + ") stays", x.now(what), ahead[what]);
        }
        CHECK.due("line(7) stays", x.line(7), lineAhead);
        CHECK.due("picture again", x.picture(1, 1, 0, 0), first);
    }

    private static void wrongNumbers() {
        BucketSheet x = new BucketSheet();
        int[][] wrong = {{0, 1, 0, 0}, {4, 1, 0, 0}, {1, 0, 0, 0}, {1, 4, 0, 0}, {1, 1, 6, 0}, {1, 1, 0, 8}, {1, 1, -1, 0},
            {1, 1, 0, -1}, {2, 1, 3, 0}, {3, 1, 2, 0}, {1, 2, 0, 4}, {1, 3, 0, 3}, {-1, -1, 0, 0}};
        for (int[] w : wrong) {
            CHECK.due("picture", x.picture(w[0], w[1], w[2], w[3]), BucketSheet.BAD);
        }
        CHECK.due("picture(1, 1, 5, 7)", x.picture(1, 1, 5, 7), 0);
        CHECK.due("picture(2, 2, 2, 3)", x.picture(2, 2, 2, 3), 0);
        CHECK.due("picture(3, 3, 1, 2)", x.picture(3, 3, 1, 2), 0);
        CHECK.due("shades(0, 1, 0)", x.shades(0, 1, 0), BucketSheet.BAD);
        CHECK.due("shades(1, 4, 0)", x.shades(1, 4, 0), BucketSheet.BAD);
        CHECK.due("shades(1, 1, 4)", x.shades(1, 1, 4), BucketSheet.BAD);
        CHECK.due("shades(1, 1, -1)", x.shades(1, 1, -1), BucketSheet.BAD);
        CHECK.due("late(8)", x.late(8), BucketSheet.BAD);
        CHECK.due("late(-1)", x.late(-1), BucketSheet.BAD);
        CHECK.due("smear(48)", x.smear(48), BucketSheet.BAD);
        CHECK.due("smear(-1)", x.smear(-1), BucketSheet.BAD);
        CHECK.due("spoiled(2)", x.spoiled(2), BucketSheet.BAD);
        CHECK.due("spoiled(-1)", x.spoiled(-1), BucketSheet.BAD);
    }

    private static void lateCharge() {
        BucketSheet x = CHECK.told("row 10 0 0 0 0 0 0 0;row 0 0 0 0 0 0 0 20;trap 40 4;trap 47 3;trap 39 2;");
        x.expose(1);
        // into 40 charge comes with the 5th handing down, none with the 6th: the trap lets go into the line with the 7th
        CHECK.due("late(0)", x.late(0), 4);
        // 39: none comes with the 4th; what it let go comes to 47 with the 5th, which keeps it from letting go till the 6th
        CHECK.due("late(7)", x.late(7), 3);
        CHECK.due("late(1)", x.late(1), 0);
        // smear is late too
        x = CHECK.told("smear 2;row 1 0 0 0 0 0 0 0;row 0 0 0 0 0 0 0 0;row 0 0 0 0 0 0 0 3;");
        CHECK.due("late(0)", x.late(0), 2);
        CHECK.due("late(7)", x.late(7), 6);
    }

    private static void smearOfWells() {
        BucketSheet x = CHECK.told("smear 3;" + ROWS);
        CHECK.due("smear(0)", x.smear(0), 3 * (0 + 9 + 0 + 2 + 50));
        CHECK.due("smear(15)", x.smear(15), 3 * (2 + 1 + 2 + 60));
        CHECK.due("smear(39)", x.smear(39), 180);
        CHECK.due("smear(40)", x.smear(40), 0);
        CHECK.due("smear(47)", x.smear(47), 0);
        x.light(47, 1);
        CHECK.due("smear(39) of the light now", x.smear(39), 3);
        x = CHECK.told(ROWS);
        CHECK.due("smear(0) of none", x.smear(0), 0);
    }

    private static void spoiledValues() {
        BucketSheet x = CHECK.told(ROWS);
        x.expose(1);
        CHECK.due("spoiled(0) by nothing", x.spoiled(0), 0);
        CHECK.due("spoiled(1) by nothing", x.spoiled(1), 0);
        x = CHECK.told("trap 40 4;row 10 0 0 0 0 0 0 0;row 20 0 0 0 0 0 0 0;");
        x.expose(1);
        // 40 takes 4 of 20 and keeps them till no row comes: what it lets go is late
        CHECK.due("spoiled(0)", x.spoiled(0), 1);
        CHECK.due("spoiled(1)", x.spoiled(1), 4);
        x = CHECK.told("smear 1;row 0 0 0 0 0 0 0 0;row 0 0 0 0 5 0 0 0;");
        x.expose(1);
        // the smear falls on rows 1 to 5 of the column: of the picture the ones behind it
        CHECK.due("spoiled(0) by smear", x.spoiled(0), 1);
        CHECK.due("spoiled(1) by smear", x.spoiled(1), 5);
        x = CHECK.told("trap 16 9;row 9 0 0 0 0 0 0 0;");
        x.expose(1);
        x.down();
        x.down();
        CHECK.due("well(16, 4)", x.well(16, 4), 9);
        // what a trap holds already is not there without traps
        CHECK.due("spoiled(0) by what is held", x.spoiled(0), 1);
        CHECK.due("spoiled(1) by what is held", x.spoiled(1), 9);
    }
}
