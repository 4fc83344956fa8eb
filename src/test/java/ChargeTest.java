/** Promises 9 to 14: expose, down, read, line, now, clear. */
public final class ChargeTest {
    private static final Check CHECK = new Check("ChargeTest");

    public static void main(String[] args) {
        exposed();
        runsOverIntoColumn();
        runsOverInOrder();
        drained();
        handedDown();
        lineRunsOver();
        trapped();
        trapsRunOver();
        smeared();
        readOut();
        sums();
        cleared();
        CHECK.end();
    }

    private static void wells(BucketSheet x, String when, int first, int step, int... want) {
        for (int i = 0; i < want.length; i++) {
            int w = first + i * step;
            CHECK.due(when + ": well(" + w + ", 0)", x.well(w, 0), want[i]);
        }
    }

    private static void exposed() {
        BucketSheet x = CHECK.told("row 1 2 0 0 0 0 0 0;hot 1 5;dark 3;cap 999;");
        CHECK.due("expose(0)", x.expose(0), BucketSheet.BAD);
        CHECK.due("expose(1000)", x.expose(1000), BucketSheet.BAD);
        CHECK.due("expose(-1)", x.expose(-1), BucketSheet.BAD);
        CHECK.due("now(6)", x.now(6), 0);
        CHECK.due("expose(2)", x.expose(2), 2 * (48 * 3 + 3 + 5));
        wells(x, "exposed", 0, 1, 8, 20, 6);
        CHECK.due("expose(1)", x.expose(1), 3 * (48 * 3 + 3 + 5));
        CHECK.due("expose(999)", x.expose(999), 48 * 999);
        CHECK.due("now(5)", x.now(5), 48);
        CHECK.due("now(6)", x.now(6), 1002L * (48 * 3 + 3 + 5));
    }

    private static void runsOverIntoColumn() {
        BucketSheet x = CHECK.told("cap 10;");
        x.light(2 * 8 + 3, 99);
        CHECK.due("expose(1)", x.expose(1), 60);
        CHECK.due("now(3)", x.now(3), 39);
        x.clear();
        x.light(2 * 8 + 3, 15);
        // above first
        CHECK.due("expose(1)", x.expose(1), 15);
        wells(x, "one above", 3, 8, 0, 5, 10, 0, 0, 0);
        // room in row 1 is 5, the rest goes below
        x.expose(1);
        wells(x, "one below", 3, 8, 0, 10, 10, 10, 0, 0);
        x.light(2 * 8 + 3, 25);
        x.expose(1);
        wells(x, "two above, two below", 3, 8, 10, 10, 10, 10, 10, 5);
        wells(x, "other columns", 2, 8, 0, 0, 0, 0, 0, 0);
        wells(x, "other columns", 4, 8, 0, 0, 0, 0, 0, 0);
        CHECK.due("now(3)", x.now(3), 0);
        CHECK.due("now(5)", x.now(5), 5);
        x.expose(1);
        CHECK.due("now(3) lost", x.now(3), 20);
    }

    /** A WELL that has not run over yet has no room; WELLS go by numbers. */
    private static void runsOverInOrder() {
        BucketSheet x = CHECK.told("cap 10;");
        x.light(0, 14);
        x.light(8, 13);
        x.light(40, 12);
        CHECK.due("expose(1)", x.expose(1), 39);
        // well 0: 4 to row 2; well 8: 3 to row 2 (row 0 is full); well 40: 2 to row 4
        wells(x, "by numbers", 0, 8, 10, 10, 7, 0, 2, 10);
        x.clear();
        x.light(40, 0);
        x.light(8, 25);
        x.light(0, 3);
        x.expose(1);
        wells(x, "above, then below", 0, 8, 10, 10, 8, 0, 0, 0);
    }

    private static void drained() {
        BucketSheet x = CHECK.told("cap 10;drain;row 30 5 10 0 0 0 0 0;");
        CHECK.due("expose(1)", x.expose(1), 25);
        CHECK.due("now(3)", x.now(3), 20);
        CHECK.due("well(8, 0)", x.well(8, 0), 0);
        CHECK.due("now(5)", x.now(5), 2);
    }

    private static void handedDown() {
        BucketSheet x = CHECK.told("row 1 2 3 4 5 6 7 8;row 11 0 0 0 0 0 0 18;");
        x.expose(1);
        for (int i = 0; i < 3; i++) {
            CHECK.due("down()", x.down(), 0);
        }
        wells(x, "three down", 0, 8, 0, 0, 0, 1, 11, 0);
        CHECK.due("down()", x.down(), 0);
        CHECK.due("down()", x.down(), 29);
        CHECK.due("line(0)", x.line(0), 11);
        CHECK.due("line(7)", x.line(7), 18);
        CHECK.due("down()", x.down(), 65);
        CHECK.due("line(0)", x.line(0), 12);
        CHECK.due("line(7)", x.line(7), 26);
        CHECK.due("line(1)", x.line(1), 2);
        CHECK.due("line(8)", x.line(8), BucketSheet.BAD);
        CHECK.due("line(-1)", x.line(-1), BucketSheet.BAD);
        CHECK.due("now(0)", x.now(0), 0);
        CHECK.due("down()", x.down(), 65);
    }

    private static void lineRunsOver() {
        BucketSheet x = CHECK.told("cap 10;dark 4;");
        x.expose(2);
        x.down();
        x.down();
        CHECK.due("line(3)", x.line(3), 16);
        CHECK.due("down()", x.down(), 160);
        CHECK.due("line(3)", x.line(3), 20);
        CHECK.due("now(3)", x.now(3), 32);
        CHECK.due("now(1)", x.now(1), 160);
    }

    private static void trapped() {
        BucketSheet x = CHECK.told("trap 8 6;trap 16 3;row 10 0 0 0 0 0 0 0;");
        x.expose(1);
        x.down();
        wells(x, "the trap takes", 0, 8, 0, 4, 0);
        CHECK.due("well(8, 4)", x.well(8, 4), 6);
        x.down();
        // none came into 8: it lets go; 16 takes 3 of 4
        wells(x, "the trap lets go", 0, 8, 0, 6, 1, 0);
        CHECK.due("well(8, 4)", x.well(8, 4), 0);
        CHECK.due("well(16, 4)", x.well(16, 4), 3);
        x.down();
        // 6 came into 16, whose trap lacks nothing
        wells(x, "the trap is full", 0, 8, 0, 0, 6, 1);
        CHECK.due("well(16, 4)", x.well(16, 4), 3);
        CHECK.due("now(2)", x.now(2), 3);
        x.down();
        wells(x, "behind", 0, 8, 0, 0, 3, 6, 1);
        CHECK.due("now(2)", x.now(2), 0);
        // as far as there is, and the rest later on
        x = CHECK.told("trap 8 50;row 10 0 0 0 0 0 0 0;");
        x.expose(1);
        x.down();
        CHECK.due("well(8, 0)", x.well(8, 0), 0);
        CHECK.due("well(8, 4)", x.well(8, 4), 10);
        x.expose(6);
        x.down();
        CHECK.due("well(8, 0) lacks 40", x.well(8, 0), 20);
        CHECK.due("well(8, 4)", x.well(8, 4), 50);
        // a trap of row 0 lets go each time
        x = CHECK.told("trap 0 9;row 5 0 0 0 0 0 0 0;");
        x.expose(1);
        x.down();
        CHECK.due("well(0, 4)", x.well(0, 4), 0);
    }

    private static void trapsRunOver() {
        BucketSheet x = CHECK.told("cap 10;trap 8 30;row 10 0 0 0 0 0 0 0;");
        for (int i = 0; i < 3; i++) {
            x.expose(1);
            x.down();
        }
        CHECK.due("well(8, 4)", x.well(8, 4), 30);
        CHECK.due("now(0)", x.now(0), 0);
        x.down();
        // with smear 0, what the trap lets go runs over: one above, one below
        wells(x, "let go", 0, 8, 10, 10, 10, 0);
        CHECK.due("now(2)", x.now(2), 0);
        // with a drain it is lost
        x = CHECK.told("cap 10;drain;trap 8 30;row 10 0 0 0 0 0 0 0;");
        for (int i = 0; i < 3; i++) {
            x.expose(1);
            x.down();
        }
        x.down();
        wells(x, "let go by drain", 0, 8, 0, 10, 0);
        CHECK.due("now(3)", x.now(3), 20);
    }

    private static void smeared() {
        BucketSheet x = CHECK.told("cap 30;smear 2;trap 8 4;row 1 0 0 0 0 0 0 0;row 5 0 0 0 0 0 0 0;");
        x.expose(1);
        CHECK.due("down()", x.down(), 0);
        // 1 came into 8 and is held; then the smear falls
        wells(x, "smear", 0, 8, 2, 10, 5, 0);
        CHECK.due("well(8, 4) smear comes behind traps", x.well(8, 4), 1);
        CHECK.due("now(6)", x.now(6), 18);
        x.down();
        wells(x, "smear", 0, 8, 2, 10, 10, 5);
        CHECK.due("well(8, 4)", x.well(8, 4), 3);
        // smear runs over
        x = CHECK.told("cap 10;smear 3;row 0 0 0 0 0 0 0 0;row 7 0 0 0 0 0 0 0;");
        x.down();
        wells(x, "smear runs over", 0, 8, 10, 10, 1);
    }

    private static void readOut() {
        BucketSheet x = CHECK.told("gain 3 2;row 1 2 3 4 5 6 7 99;");
        x.expose(1);
        x.light(7, 0);
        for (int i = 0; i < 6; i++) {
            x.down();
        }
        CHECK.due("read() 99", x.read(), 148);
        CHECK.due("line(7)", x.line(7), 7);
        CHECK.due("line(1)", x.line(1), 1);
        CHECK.due("line(0)", x.line(0), 0);
        CHECK.due("read() 7", x.read(), 10);
        CHECK.due("now(4)", x.now(4), 106);
        for (int i = 6; i > 0; i--) {
            CHECK.due("read() " + i, x.read(), i * 3 / 2);
        }
        CHECK.due("read() none", x.read(), 0);
        CHECK.due("now(4)", x.now(4), 127);
        CHECK.due("now(1)", x.now(1), 0);
        // 255 at most
        x = CHECK.told("cap 999;row 0 0 0 0 0 0 85 86;gain 3 1;");
        x.expose(1);
        for (int i = 0; i < 6; i++) {
            x.down();
        }
        CHECK.due("read() 258", x.read(), 255);
        CHECK.due("read() 255", x.read(), 255);
        CHECK.due("now(4)", x.now(4), 171);
    }

    private static void sums() {
        BucketSheet x = CHECK.told("cap 20;smear 1;dark 2;hot 5 9;trap 13 7;trap 40 9;"
            + "row 9 1 0 0 3 0 0 20;row 0 4 0 7 0 0 0 0;");
        for (int i = 1; i < 60; i++) {
            if (i % 5 == 0) {
                x.expose(i % 7 + 1);
            } else if (i % 3 == 0) {
                x.down();
            } else {
                x.read();
            }
            CHECK.due("all that came at " + i, x.now(0) + x.now(1) + x.now(2) + x.now(3) + x.now(4), x.now(6));
        }
        CHECK.due("now(7)", x.now(7), BucketSheet.BAD);
        CHECK.due("now(-1)", x.now(-1), BucketSheet.BAD);
        // sums beyond an int
        x = CHECK.told("dark 9;");
        for (int w = 0; w < 48; w++) {
            x.light(w, 99);
        }
        for (int i = 0; i < 450; i++) {
            x.expose(999);
        }
        CHECK.due("now(6)", x.now(6), 450L * 999 * 48 * 108);
        CHECK.due("now(3)", x.now(3), 450L * 999 * 48 * 108 - 48 * 200);
    }

    private static void cleared() {
        BucketSheet x = CHECK.told("cap 10;trap 8 4;row 30 2 0 0 0 0 0 0;clock 1 3;");
        x.keep(1);
        x.expose(1);
        x.down();
        x.down();
        x.down();
        x.down();
        x.read();
        long there = x.now(0) + x.now(1) + x.now(2);
        CHECK.due("clear()", x.clear(), there);
        for (int what = 0; what < 7; what++) {
            CHECK.due("now(" + what + ")", x.now(what), 0);
        }
        CHECK.due("well(8, 4)", x.well(8, 4), 0);
        CHECK.due("well(0, 1)", x.well(0, 1), 30);
        CHECK.due("well(8, 3)", x.well(8, 3), 4);
        CHECK.due("rule(0)", x.rule(0), 10);
        CHECK.due("count(2)", x.count(2), 2);
        CHECK.due("count(3)", x.count(3), 1);
        CHECK.due("clear() again", x.clear(), 0);
    }
}
