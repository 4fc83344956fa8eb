/** Promises 25 to 31: word, still, words, clock, goes, fewest, rounds. */
public final class GatesTest {
    private static final Check CHECK = new Check("GatesTest");

    public static void main(String[] args) {
        theRound();
        goesOfThree();
        goesOfFour();
        clocks();
        carriedFar();
        fewestWords();
        roundsByHand();
        asTheModelSays(3);
        asTheModelSays(4);
        CHECK.end();
    }

    private static BucketSheet withRound(int phases, int... words) {
        BucketSheet x = CHECK.told("phases " + phases + ";");
        for (int v : words) {
            x.word(v);
        }
        return x;
    }

    private static void theRound() {
        BucketSheet x = new BucketSheet();
        CHECK.due("word(8) of 3", x.word(8), BucketSheet.BAD);
        CHECK.due("word(-1)", x.word(-1), BucketSheet.BAD);
        for (int i = 0; i < 12; i++) {
            CHECK.due("word", x.word(i % 8), i + 1);
        }
        CHECK.due("word(8) of a full round", x.word(8), BucketSheet.BAD);
        CHECK.due("word(7) of a full round", x.word(7), BucketSheet.FULL);
        for (int i = 0; i < 12; i++) {
            CHECK.due("words(" + i + ")", x.words(i), i % 8);
        }
        CHECK.due("words(12)", x.words(12), BucketSheet.BAD);
        CHECK.due("words(-1)", x.words(-1), BucketSheet.BAD);
        CHECK.due("still()", x.still(), 12);
        CHECK.due("words(0)", x.words(0), BucketSheet.BAD);
        CHECK.due("still()", x.still(), 0);
        CHECK.due("word(7)", x.word(7), 1);
        x = CHECK.told("phases 4;clock 3 6;");
        CHECK.due("word(15) of 4", x.word(15), 3);
        CHECK.due("word(16) of 4", x.word(16), BucketSheet.BAD);
        CHECK.due("count(2)", x.count(2), 3);
    }

    private static void goesOfThree() {
        BucketSheet x = new BucketSheet();
        // rows: the WORD ahead, 1 to 6; in them: the WORD behind, 0 to 7
        int[][] want = {
            {1, 0, 1, 0, 1, 0, 1, 3},
            {1, 1, 0, 0, 1, 1, 0, 3},
            {1, 0, 0, 0, 1, 0, 0, 3},
            {1, 1, 1, 1, 0, 0, 0, 3},
            {1, 0, 1, 0, 0, 0, 0, 3},
            {1, 1, 0, 0, 0, 0, 0, 3}};
        for (int a = 1; a < 7; a++) {
            for (int b = 0; b < 8; b++) {
                CHECK.due("goes(" + a + ", " + b + ") of 3", x.goes(a, b), want[a - 1][b]);
            }
        }
        for (int b = 0; b < 8; b++) {
            CHECK.due("goes(0, " + b + ")", x.goes(0, b), BucketSheet.STATE);
            CHECK.due("goes(7, " + b + ")", x.goes(7, b), BucketSheet.STATE);
        }
        CHECK.due("goes(8, 1)", x.goes(8, 1), BucketSheet.BAD);
        CHECK.due("goes(1, 8)", x.goes(1, 8), BucketSheet.BAD);
        CHECK.due("goes(-1, 1)", x.goes(-1, 1), BucketSheet.BAD);
        CHECK.due("goes(0, 8)", x.goes(0, 8), BucketSheet.BAD);
    }

    private static void goesOfFour() {
        BucketSheet x = CHECK.told("phases 4;");
        CHECK.due("goes(1, 5): one of two", x.goes(1, 5), 0);
        CHECK.due("goes(2, 5): none", x.goes(2, 5), 1);
        CHECK.due("goes(7, 5): both", x.goes(7, 5), 2);
        CHECK.due("goes(3, 5)", x.goes(3, 5), 0);
        CHECK.due("goes(7, 13)", x.goes(7, 13), 2);
        CHECK.due("goes(3, 14): on", x.goes(3, 14), 0);
        CHECK.due("goes(3, 12)", x.goes(3, 12), 1);
        CHECK.due("goes(3, 13): back", x.goes(3, 13), 0);
        CHECK.due("goes(7, 15)", x.goes(7, 15), 3);
        CHECK.due("goes(1, 0)", x.goes(1, 0), 1);
        for (int first : new int[] {0, 5, 10, 15}) {
            CHECK.due("goes(" + first + ", 1)", x.goes(first, 1), BucketSheet.STATE);
        }
        CHECK.due("goes(9, 1): round the end", x.goes(9, 1), 0);
        CHECK.due("goes(1, 16)", x.goes(1, 16), BucketSheet.BAD);
        CHECK.due("goes(16, 1)", x.goes(16, 1), BucketSheet.BAD);
    }

    private static void clock(BucketSheet x, String name, int at, int what, int carried) {
        CHECK.due(name + " clock(0)", x.clock(0), at);
        CHECK.due(name + " clock(1)", x.clock(1), what);
        CHECK.due(name + " clock(2)", x.clock(2), carried);
        CHECK.due(name + " clock(3)", x.clock(3), BucketSheet.BAD);
        CHECK.due(name + " clock(-1)", x.clock(-1), BucketSheet.BAD);
    }

    private static void clocks() {
        int none = BucketSheet.NONE;
        int state = BucketSheet.STATE;
        clock(withRound(3), "no words", state, state, state);
        clock(withRound(3, 0), "none high", state, state, state);
        clock(withRound(3, 7, 1), "all high", state, state, state);
        clock(withRound(4, 5, 1), "two regions", state, state, state);
        clock(withRound(4, 10), "two regions", state, state, state);
        clock(withRound(3, 5), "one word", none, 0, 100);
        clock(withRound(3, 1, 3, 2, 6, 4, 5), "on", none, 0, 101);
        clock(withRound(3, 5, 4, 6, 2, 3, 1), "back", none, 0, 99);
        clock(withRound(3, 3, 6, 5), "on in three", none, 0, 101);
        clock(withRound(3, 1, 3, 1), "there and back", none, 0, 100);
        clock(withRound(3, 1, 2), "spills", 1, 1, none);
        clock(withRound(3, 1, 3, 2), "spills at the first", 0, 1, none);
        clock(withRound(3, 1, 3, 7, 0), "mixes ahead of spills", 2, 3, none);
        clock(withRound(3, 1, 0, 7), "spills ahead of mixes", 1, 1, none);
        clock(withRound(4, 1, 3, 7, 5), "splits", 3, 2, none);
        clock(withRound(4, 7, 13), "splits ahead of mixes", 1, 2, none);
        clock(withRound(4, 1, 5, 1), "an empty region beside", none, 0, 100);
        // the packet lies under phase 0 of 5, the other region is empty
        clock(withRound(4, 1, 5, 4), "not under the other region", 2, 1, none);
        clock(withRound(4, 4, 5, 4), "under phase 2", none, 0, 100);
        clock(withRound(4, 1, 5, 7, 6, 14, 12, 9), "on by way of 5", none, 0, 101);
        clock(withRound(4, 1, 3, 2, 10, 14, 12, 8, 9), "on by way of 10", none, 0, 101);
        clock(withRound(4, 3, 6, 12, 9), "on in four", none, 0, 101);
        clock(withRound(4, 9, 12, 6, 3), "back in four", none, 0, 99);
    }

    private static void carriedFar() {
        clock(withRound(3, 3, 6, 5, 3, 6, 5, 3, 6, 5, 3, 6, 5), "four on", BucketSheet.NONE, 0, 104);
        clock(withRound(3, 5, 6, 3, 5, 6, 3, 5, 6, 3, 5, 6, 3), "four back", BucketSheet.NONE, 0, 96);
        clock(withRound(4, 3, 6, 12, 9, 3, 6, 12, 9, 3, 6, 12, 9), "three on", BucketSheet.NONE, 0, 103);
    }

    private static void fewestWords() {
        for (int phases = 3; phases <= 4; phases++) {
            BucketSheet x = CHECK.told("phases " + phases + ";");
            CHECK.due("fewest(1)", x.fewest(1), 3);
            CHECK.due("fewest(-1)", x.fewest(-1), 3);
            CHECK.due("fewest(0)", x.fewest(0), 1);
            CHECK.due("fewest(2)", x.fewest(2), BucketSheet.BAD);
            CHECK.due("fewest(-2)", x.fewest(-2), BucketSheet.BAD);
        }
    }

    private static void roundsByHand() {
        BucketSheet x = new BucketSheet();
        CHECK.due("rounds(1, 1, 0)", x.rounds(1, 1, 0), 1);
        CHECK.due("rounds(1, 1, 1)", x.rounds(1, 1, 1), 0);
        // 1, 3, 5 behind 1 and back again
        CHECK.due("rounds(1, 2, 0)", x.rounds(1, 2, 0), 3);
        CHECK.due("rounds(0, 2, 0)", x.rounds(0, 2, 0), 0);
        CHECK.due("rounds(7, 1, 0)", x.rounds(7, 1, 0), 0);
        CHECK.due("rounds(8, 1, 0)", x.rounds(8, 1, 0), BucketSheet.BAD);
        CHECK.due("rounds(-1, 1, 0)", x.rounds(-1, 1, 0), BucketSheet.BAD);
        CHECK.due("rounds(1, 0, 0)", x.rounds(1, 0, 0), BucketSheet.BAD);
        CHECK.due("rounds(1, 13, 0)", x.rounds(1, 13, 0), BucketSheet.BAD);
        CHECK.due("rounds(1, 1, 4)", x.rounds(1, 1, 4), BucketSheet.BAD);
        CHECK.due("rounds(1, 1, -4)", x.rounds(1, 1, -4), BucketSheet.BAD);
        CHECK.due("rounds(0, 0, 0)", x.rounds(0, 0, 0), BucketSheet.BAD);
        x = CHECK.told("phases 4;");
        CHECK.due("rounds(5, 1, 0) of 4", x.rounds(5, 1, 0), 0);
        CHECK.due("rounds(16, 1, 0) of 4", x.rounds(16, 1, 0), BucketSheet.BAD);
        // the phases change with the text
        Check.tell(x, "phases 3;");
        CHECK.due("rounds(3, 3, 0) of 3 again", x.rounds(3, 3, 0), 17);
        CHECK.due("goes(3, 6) of 3 again", x.goes(3, 6), 0);
    }

    private static void asTheModelSays(int phases) {
        BucketSheet x = CHECK.told("phases " + phases + ";");
        Model model = new Model();
        model.feed(0x7068617365732020L);
        model.feed(phases == 3 ? 0x333b202020202020L : 0x343b202020202020L);
        model.text();
        for (int a = 0; a < 1 << phases; a++) {
            for (int b = 0; b < 1 << phases; b++) {
                CHECK.due("goes(" + a + ", " + b + ")", x.goes(a, b), model.goes(a, b));
            }
            for (int n = 1; n <= 12; n++) {
                for (int d = -3; d <= 3; d++) {
                    // the dear ones of 4 phases by a few
                    if (phases == 3 || n < 6 || (a == 1 || a == 7 || a == 12) && d >= 0 && n % 3 == 0) {
                        CHECK.due("rounds(" + a + ", " + n + ", " + d + ") of " + phases, x.rounds(a, n, d), model.rounds(a, n, d));
                    }
                }
            }
        }
    }
}
