/** The edges of GATES and CARRIED in "Terms" 2 and of promises 25 to 31. */
public final class GatesEdgesTest {
    private static final Check CHECK = new Check("GatesEdgesTest");
    private static final int SPILLS = 1, SPLITS = 2, MIXES = 3;

    public static void main(String[] args) {
        wordsAreTaken();
        stillness();
        wordsAreAsked();
        goodFirstWords();
        oneRegionAWell();
        spills();
        splits();
        mixes();
        theFirstThatIsSo();
        regionOfItsOwn();
        fromTheLastToTheFirst();
        carried();
        clockOrder();
        goesBounds();
        fewest();
        roundsBounds();
        roundsAtTheirEdges();
        phasesChange();
        CHECK.end();
    }

    private static BucketSheet of(int phases, int... words) {
        BucketSheet x = CHECK.told("phases " + phases + ";");
        for (int v : words) {
            x.word(v);
        }
        CHECK.due("count(2)", x.count(2), words.length);
        return x;
    }

    private static void clock(String name, BucketSheet x, int at, int what, int carried) {
        CHECK.due(name + ": clock(0)", x.clock(0), at);
        CHECK.due(name + ": clock(1)", x.clock(1), what);
        CHECK.due(name + ": clock(2)", x.clock(2), carried);
    }

    private static void state(String name, BucketSheet x) {
        clock(name, x, BucketSheet.STATE, BucketSheet.STATE, BucketSheet.STATE);
    }

    private static void wrongAt(String name, BucketSheet x, int at, int what) {
        clock(name, x, at, what, BucketSheet.NONE);
    }

    private static void carries(String name, BucketSheet x, int by) {
        clock(name, x, BucketSheet.NONE, 0, 100 + by);
    }

    private static void wordsAreTaken() {
        CHECK.says("A WORD (0 to 15; to 7 with 3 phases) comes behind THE ROUND: how many WORDS. BAD; FULL.");
        CHECK.bounds("word() of 3", 0, 7, () -> of(3), (x, n) -> x.word(n));
        CHECK.bounds("word() of 4", 0, 15, () -> of(4), (x, n) -> x.word(n));
        for (int phases = 3; phases <= 4; phases++) {
            int most = (1 << phases) - 1;
            BucketSheet x = of(phases);
            for (int i = 0; i < 12; i++) {
                CHECK.due("word " + i, x.word(most - i % 3), i + 1);
            }
            CHECK.due("the 13th word", x.word(0), BucketSheet.FULL);
            CHECK.due("the 13th word, the most", x.word(most), BucketSheet.FULL);
            CHECK.due("BAD fits ahead of FULL", x.word(most + 1), BucketSheet.BAD);
            CHECK.due("BAD fits ahead of FULL", x.word(-1), BucketSheet.BAD);
            CHECK.due("count(2) stays", x.count(2), 12);
            for (int i = 0; i < 12; i++) {
                CHECK.due("words(" + i + ") stays", x.words(i), most - i % 3);
            }
        }
        // a text's 12 are full too
        BucketSheet x = CHECK.told("clock" + " 1".repeat(12) + ";");
        CHECK.due("word behind a text's 12", x.word(1), BucketSheet.FULL);
        x = CHECK.told("clock" + " 1".repeat(11) + ";");
        CHECK.due("word behind a text's 11", x.word(2), 12);
        CHECK.due("words(11)", x.words(11), 2);
    }

    private static void stillness() {
        CHECK.says("THE ROUND has no WORDS: how many there were.");
        BucketSheet x = new BucketSheet();
        CHECK.due("still() of none", x.still(), 0);
        for (int many = 1; many <= 12; many++) {
            for (int i = 0; i < many; i++) {
                x.word(3);
            }
            CHECK.due("still() of " + many, x.still(), many);
            CHECK.due("still() again", x.still(), 0);
            CHECK.due("words(0)", x.words(0), BucketSheet.BAD);
            CHECK.due("count(2)", x.count(2), 0);
            state("still", x);
        }
        // the phases stay
        x = of(4, 9);
        x.still();
        CHECK.due("rule(6)", x.rule(6), 4);
        CHECK.due("word(15)", x.word(15), 1);
    }

    private static void wordsAreAsked() {
        CHECK.says("WORD i of THE ROUND. BAD.");
        for (int many = 0; many <= 12; many++) {
            int[] words = new int[many];
            for (int i = 0; i < many; i++) {
                words[i] = 15 - i;
            }
            BucketSheet x = of(4, words);
            for (int i = -2; i <= 14; i++) {
                CHECK.due("words(" + i + ") of " + many, x.words(i), i < 0 || i >= many ? BucketSheet.BAD : 15 - i);
            }
            CHECK.due("words(min)", x.words(Integer.MIN_VALUE), BucketSheet.BAD);
            CHECK.due("words(max)", x.words(Integer.MAX_VALUE), BucketSheet.BAD);
        }
    }

    private static void goodFirstWords() {
        CHECK.says("A good first WORD has just one REGION a well (not all, none, or two);");
        CHECK.says("STATE: no WORDS, the first one is not good.");
        state("no words of 3", of(3));
        state("no words of 4", of(4));
        for (int word = 0; word < 8; word++) {
            boolean good = word != 0 && word != 7;
            BucketSheet x = of(3, word);
            CHECK.due("clock(2) of " + word + " of 3", x.clock(2), good ? 100 : BucketSheet.STATE);
            CHECK.due("goes(" + word + ", " + word + ") of 3", x.goes(word, word), good ? 0 : BucketSheet.STATE);
            CHECK.due("rounds(" + word + ", 1, 0) of 3", x.rounds(word, 1, 0), good ? 1 : 0);
        }
        for (int word = 0; word < 16; word++) {
            boolean good = word != 0 && word != 5 && word != 10 && word != 15;
            BucketSheet x = of(4, word);
            CHECK.due("clock(2) of " + word + " of 4", x.clock(2), good ? 100 : BucketSheet.STATE);
            CHECK.due("goes(" + word + ", " + word + ") of 4", x.goes(word, word), good ? 0 : BucketSheet.STATE);
            CHECK.due("rounds(" + word + ", 1, 0) of 4", x.rounds(word, 1, 0), good ? 1 : 0);
        }
        // 7 is all of 3 phases, of 4 it is a good one; 5 has one REGION of 3, round the end of a well
        state("7 of 3", of(3, 7));
        carries("7 of 4", of(4, 7), 0);
        carries("5 of 3", of(3, 5), 0);
        state("5 of 4", of(4, 5));
        // only the first one must be good
        carries("5 of 4 behind", of(4, 1, 5), 0);
    }

    private static void oneRegionAWell() {
        CHECK.says("GATE g is of phase g modulo phases, a well each phases GATES. A WORD: bit p: GATES of phase p are HIGH.");
        // the REGION of phases 2 and 0 of 3 lies round the end of a well: on from 4, back from 1
        carries("4, 5, 1, 3, 2, 6", of(3, 4, 5, 1, 3, 2, 6), 1);
        carries("1, 5, 4, 6, 2, 3", of(3, 1, 5, 4, 6, 2, 3), -1);
        carries("8, 9, 1, 3, 2, 6, 4, 12", of(4, 8, 9, 1, 3, 2, 6, 4, 12), 1);
        carries("1, 9, 8, 12, 4, 6, 2, 3", of(4, 1, 9, 8, 12, 4, 6, 2, 3), -1);
        // three GATES round the end
        carries("11, 9, 13", of(4, 11, 9, 13, 9), 0);
    }

    private static void spills() {
        CHECK.says("it SPILLS, if there is none;");
        for (int word = 1; word < 7; word++) {
            CHECK.due("goes(" + word + ", 0) of 3", of(3).goes(word, 0), SPILLS);
            // all GATES but its own
            CHECK.due("goes(" + word + ", " + (7 - word) + ") of 3", of(3).goes(word, 7 - word), SPILLS);
        }
        for (int word = 1; word < 15; word++) {
            boolean good = word != 5 && word != 10;
            CHECK.due("goes(" + word + ", 0) of 4", of(4).goes(word, 0), good ? SPILLS : BucketSheet.STATE);
            CHECK.due("goes(" + word + ", " + (15 - word) + ") of 4", of(4).goes(word, 15 - word), good ? SPILLS : BucketSheet.STATE);
        }
        wrongAt("1, 0", of(3, 1, 0), 1, SPILLS);
    }

    private static void splits() {
        CHECK.says("it SPLITS, if there are two;");
        // of 3 phases none can: two GATES side by side are one REGION
        for (int a = 1; a < 7; a++) {
            for (int b = 0; b < 8; b++) {
                CHECK.due("goes(" + a + ", " + b + ") of 3 splits", of(3).goes(a, b) == SPLITS ? 1 : 0, 0);
            }
        }
        // of 4 phases: the three of one WORD, of which the middle one is low in the next
        int[] three = {7, 14, 13, 11};
        int[] middle = {2, 4, 8, 1};
        for (int i = 0; i < 4; i++) {
            for (int b = 0; b < 16; b++) {
                int others = three[i] & ~middle[i];
                boolean splits = (b & middle[i]) == 0 && (b & others) == others;
                CHECK.due("goes(" + three[i] + ", " + b + ") splits", of(4).goes(three[i], b) == SPLITS ? 1 : 0, splits ? 1 : 0);
            }
        }
        wrongAt("3, 7, 5", of(4, 3, 7, 5), 2, SPLITS);
    }

    private static void mixes() {
        CHECK.says("By a WORD of all HIGH all MIX.");
        for (int word = 1; word < 7; word++) {
            CHECK.due("goes(" + word + ", 7) of 3", of(3).goes(word, 7), MIXES);
        }
        for (int word = 1; word < 15; word++) {
            boolean good = word != 5 && word != 10;
            CHECK.due("goes(" + word + ", 15) of 4", of(4).goes(word, 15), good ? MIXES : BucketSheet.STATE);
            CHECK.due("goes(" + word + ", 7) of 4 does not mix", of(4).goes(word, 7) == MIXES ? 1 : 0, 0);
        }
        wrongAt("1, 7", of(3, 1, 7), 1, MIXES);
        // a WORD of two REGIONS a well, one of them empty, mixes nothing, and all HIGH behind it does
        wrongAt("1, 5, 15", of(4, 1, 5, 15), 2, MIXES);
    }

    private static void theFirstThatIsSo() {
        CHECK.says("PACKETS MIX, if one REGION has GATES of two; the first that is so (SPILLS, SPLITS, MIXES).");
        // GATES 0 to 2, then 2 to 4: it splits, and each REGION has GATES of two
        CHECK.due("goes(7, 13)", of(4).goes(7, 13), SPLITS);
        CHECK.due("goes(14, 11)", of(4).goes(14, 11), SPLITS);
        CHECK.due("goes(13, 7)", of(4).goes(13, 7), SPLITS);
        CHECK.due("goes(11, 14)", of(4).goes(11, 14), SPLITS);
        wrongAt("7, 13", of(4, 7, 13), 1, SPLITS);
    }

    private static void regionOfItsOwn() {
        CHECK.says("A WORD behind another one: a PACKET goes to the REGION that has GATES of its own;");
        // behind 5 it lies under one of the two REGIONS: which one is told by where it came from
        wrongAt("1, 5, 4", of(4, 1, 5, 4), 2, SPILLS);
        wrongAt("4, 5, 1", of(4, 4, 5, 1), 2, SPILLS);
        wrongAt("2, 10, 8", of(4, 2, 10, 8), 2, SPILLS);
        carries("1, 5, 3", of(4, 1, 5, 3), 0);
        carries("8, 10, 12", of(4, 8, 10, 12), 0);
        // at the first WORD again it spills from the other REGION
        wrongAt("1, 3, 6, 4, 5", of(4, 1, 3, 6, 4, 5), 0, SPILLS);
        carries("1, 3, 6, 4, 5, 12, 9", of(4, 1, 3, 6, 4, 5, 12, 9), 1);
    }

    private static void fromTheLastToTheFirst() {
        CHECK.says("THE ROUND: WORDS one behind another, from the last one to the first one again.");
        wrongAt("1, 3, 2: the last to the first", of(3, 1, 3, 2), 0, SPILLS);
        wrongAt("2, 3, 1, 5, 4: the last to the first", of(3, 2, 3, 1, 5, 4), 0, SPILLS);
        wrongAt("12 words", of(3, 1, 1, 1, 1, 1, 1, 1, 1, 1, 1, 3, 2), 0, SPILLS);
        wrongAt("the 12th of 12", of(3, 1, 1, 1, 1, 1, 1, 1, 1, 1, 1, 1, 2), 11, SPILLS);
        wrongAt("the 2nd of 12", of(3, 1, 7, 0, 1, 1, 1, 1, 1, 1, 1, 1, 1), 1, MIXES);
        wrongAt("the last splits into the first", of(4, 11, 9, 13, 12, 14), 0, SPLITS);
        CHECK.says("0 the first WORD at which something is wrong (0: from the last one to the first one; NONE), 1 what (1 SPILLS,"
            + " 2 SPLITS, 3 MIXES; 0), 2 CARRIED and 100 (NONE: something is wrong).");
        carries("one word, from itself to itself", of(3, 6), 0);
        // what was wrong with an earlier ROUND is not asked of a later one
        BucketSheet x = of(3, 1, 2);
        wrongAt("1, 2", x, 1, SPILLS);
        x.still();
        x.word(3);
        carries("3 behind what was wrong", x, 0);
        x.word(7);
        wrongAt("3, 7", x, 1, MIXES);
        CHECK.due("goes(1, 2)", x.goes(1, 2), SPILLS);
        Check.tell(x, "clock 3 6 5;");
        carries("3, 6, 5 behind what was wrong", x, 1);
        x.word(0);
        wrongAt("3, 6, 5, 0", x, 3, SPILLS);
        carries("12 words alike", of(4, 6, 6, 6, 6, 6, 6, 6, 6, 6, 6, 6, 6), 0);
    }

    private static void carried() {
        CHECK.says("CARRIED: by how many wells (up the line above 0) PACKETS are further on when THE ROUND is at its first WORD again.");
        carries("four on of 3", of(3, 3, 6, 5, 3, 6, 5, 3, 6, 5, 3, 6, 5), 4);
        carries("four back of 3", of(3, 5, 6, 3, 5, 6, 3, 5, 6, 3, 5, 6, 3), -4);
        carries("four on of 4", of(4, 7, 12, 11, 7, 12, 11, 7, 12, 11, 7, 12, 11), 4);
        carries("four back of 4", of(4, 11, 12, 7, 11, 12, 7, 11, 12, 7, 11, 12, 7), -4);
        carries("on and back", of(3, 3, 6, 5, 3, 5, 6), 0);
        carries("on, on, back", of(3, 3, 6, 5, 3, 6, 5, 3, 5, 6), 1);
        // CARRIED is told by GATES of the first WORD: its REGION must be as it was, not the last one's
        carries("1, 5, 5", of(3, 1, 5, 5), 0);
        carries("5, 1, 1", of(3, 5, 1, 1), 0);
        carries("5, 4, 4", of(3, 5, 4, 4), 0);
    }

    private static void clockOrder() {
        CHECK.says("BAD; STATE: no WORDS, the first one is not good.");
        CHECK.bounds("clock()", 0, 2, () -> of(3, 3, 6, 5), (x, n) -> x.clock(n));
        CHECK.bounds("clock() of something wrong", 0, 2, () -> of(3, 3, 4), (x, n) -> x.clock(n));
        CHECK.bounds("clock(): BAD fits ahead of STATE, no WORDS", 0, 2, () -> of(3), (x, n) -> x.clock(n));
        CHECK.bounds("clock(): BAD fits ahead of STATE, not good", 0, 2, () -> of(4, 10), (x, n) -> x.clock(n));
    }

    private static void goesBounds() {
        CHECK.says("One WORD behind another one (both 0 to 15; to 7 with 3 phases): 0 nothing is wrong, 1, 2, 3. BAD; STATE: the first"
            + " one is not good.");
        CHECK.bounds("goes(.., 1) of 3", 0, 7, () -> of(3), (x, n) -> x.goes(n, 1));
        CHECK.bounds("goes(1, ..) of 3", 0, 7, () -> of(3), (x, n) -> x.goes(1, n));
        CHECK.bounds("goes(.., 1) of 4", 0, 15, () -> of(4), (x, n) -> x.goes(n, 1));
        CHECK.bounds("goes(1, ..) of 4", 0, 15, () -> of(4), (x, n) -> x.goes(1, n));
        CHECK.bounds("goes(0, ..) of 3: BAD fits ahead of STATE", 0, 7, () -> of(3), (x, n) -> x.goes(0, n));
        CHECK.bounds("goes(5, ..) of 4: BAD fits ahead of STATE", 0, 15, () -> of(4), (x, n) -> x.goes(5, n));
        // THE ROUND is not looked at
        CHECK.due("goes(3, 6) beside a round", of(3, 1, 7).goes(3, 6), 0);
        // the phases are those of the latest text
        BucketSheet x = of(4);
        CHECK.due("goes(7, 1) of 4", x.goes(7, 1), 0);
        Check.tell(x, "");
        CHECK.due("goes(7, 1) of 3", x.goes(7, 1), BucketSheet.STATE);
        CHECK.due("goes(8, 1) of 3", x.goes(8, 1), BucketSheet.BAD);
        Check.tell(x, "phases 4;");
        CHECK.due("goes(8, 8) of 4 again", x.goes(8, 8), 0);
    }

    private static void fewest() {
        CHECK.says("The fewest WORDS of a ROUND with nothing wrong that CARRIES by one (1), by one back (-1), by none (0; 1 WORD stays). BAD.");
        for (int phases = 3; phases <= 4; phases++) {
            int of = phases;
            CHECK.bounds("fewest() of " + phases, -1, 1, () -> of(of), (x, n) -> x.fewest(n));
            BucketSheet x = of(phases, 1, 7);
            CHECK.due("fewest(0)", x.fewest(0), 1);
            CHECK.due("fewest(1)", x.fewest(1), 3);
            CHECK.due("fewest(-1)", x.fewest(-1), 3);
            for (int first = 0; first < 1 << phases; first++) {
                CHECK.due("rounds(" + first + ", 2, 1)", x.rounds(first, 2, 1) + x.rounds(first, 1, 1), 0);
                CHECK.due("rounds(" + first + ", 2, -1)", x.rounds(first, 2, -1) + x.rounds(first, 1, -1), 0);
            }
        }
    }

    private static void roundsBounds() {
        CHECK.says("How many ROUNDS of n WORDS (1 to 12) with nothing wrong CARRY by d (-3 to 3), the first WORD being a told one (0 to"
            + " 15; to 7 with 3 phases). BAD. (It is not good: 0.)");
        CHECK.bounds("rounds(.., 1, 0) of 3", 0, 7, () -> of(3), (x, n) -> x.rounds(n, 1, 0));
        CHECK.bounds("rounds(.., 1, 0) of 4", 0, 15, () -> of(4), (x, n) -> x.rounds(n, 1, 0));
        CHECK.bounds("rounds(1, .., 0)", 1, 12, () -> of(3), (x, n) -> x.rounds(1, n, 0));
        CHECK.bounds("rounds(9, .., 0)", 1, 12, () -> of(4), (x, n) -> x.rounds(9, n, 0));
        CHECK.bounds("rounds(1, 12, ..)", -3, 3, () -> of(3), (x, n) -> x.rounds(1, 12, n));
        CHECK.bounds("rounds(1, 1, ..)", -3, 3, () -> of(3), (x, n) -> x.rounds(1, 1, n));
        // BAD fits ahead of what is not good
        CHECK.bounds("rounds(0, .., 0)", 1, 12, () -> of(3), (x, n) -> x.rounds(0, n, 0));
        CHECK.bounds("rounds(15, 1, ..)", -3, 3, () -> of(4), (x, n) -> x.rounds(15, 1, n));
        int[] notGood = {0, 5, 10, 15};
        for (int first : notGood) {
            for (int n = 1; n <= 12; n++) {
                CHECK.due("rounds(" + first + ", " + n + ", 0) of 4", of(4).rounds(first, n, 0), 0);
            }
        }
        for (int n = 1; n <= 12; n++) {
            CHECK.due("rounds(0, " + n + ", 0) of 3", of(3).rounds(0, n, 0), 0);
            CHECK.due("rounds(7, " + n + ", 0) of 3", of(3).rounds(7, n, 0), 0);
        }
    }

    private static void roundsAtTheirEdges() {
        CHECK.says("How many ROUNDS of n WORDS (1 to 12) with nothing wrong CARRY by d (-3 to 3)");
        BucketSheet x = of(3);
        for (int d = -3; d <= 3; d++) {
            CHECK.due("rounds(6, 1, " + d + ")", x.rounds(6, 1, d), d == 0 ? 1 : 0);
            int far = Math.abs(d);
            // two GATES at a time go one on with each WORD, and none goes faster
            if (far > 0) {
                CHECK.due("rounds(3, " + 3 * far + ", " + d + ")", x.rounds(3, 3 * far, d), 1);
                CHECK.due("rounds(3, " + (3 * far - 1) + ", " + d + ")", x.rounds(3, 3 * far - 1, d), 0);
                // from one GATE one WORD more: two GATES first, one GATE last
                CHECK.due("rounds(1, " + (3 * far + 1) + ", " + d + ")", x.rounds(1, 3 * far + 1, d), 1);
                CHECK.due("rounds(1, " + 3 * far + ", " + d + ")", x.rounds(1, 3 * far, d), 0);
            }
        }
        // up to 11 WORDS nothing gets further than 3: all closed ways through goes() are there
        for (int first = 1; first < 7; first++) {
            for (int n = 1; n <= 11; n++) {
                long all = 0;
                for (int d = -3; d <= 3; d++) {
                    all += x.rounds(first, n, d);
                }
                CHECK.due("rounds(" + first + ", " + n + ", all)", all, closedWays(first, n));
            }
        }
        // more than an int holds
        CHECK.due("rounds(7, 12, 0) of 4 is above 2^31", of(4).rounds(7, 12, 0) > Integer.MAX_VALUE ? 1 : 0, 1);
    }

    /** 3, 4, 3, 4 phases by one text after another: all is as of new objects. */
    private static void phasesChange() {
        CHECK.says("6 phases (3, 4; 3)");
        BucketSheet x = new BucketSheet();
        for (int i = 0; i < 4; i++) {
            int phases = 3 + i % 2;
            Check.tell(x, "phases " + phases + ";");
            BucketSheet fresh = of(phases);
            CHECK.due("word(8)", x.word(8), phases == 3 ? BucketSheet.BAD : 1);
            for (int first = 0; first < 1 << phases; first++) {
                CHECK.due("rounds(" + first + ", 5, 0) of " + phases, x.rounds(first, 5, 0), fresh.rounds(first, 5, 0));
                CHECK.due("rounds(" + first + ", 5, 1) of " + phases, x.rounds(first, 5, 1), fresh.rounds(first, 5, 1));
                CHECK.due("goes(" + first + ", 3) of " + phases, x.goes(first, 3), fresh.goes(first, 3));
            }
            CHECK.due("fewest(1)", x.fewest(1), 3);
        }
    }

    /** Of 3 phases a WORD has one REGION a well: a PACKET is wherever its WORD is. */
    private static long closedWays(int first, int n) {
        BucketSheet x = of(3);
        long[] ways = new long[8];
        ways[first] = 1;
        for (int i = 0; i < n; i++) {
            long[] next = new long[8];
            for (int a = 1; a < 7; a++) {
                for (int b = 1; b < 7; b++) {
                    next[b] += x.goes(a, b) == 0 ? ways[a] : 0;
                }
            }
            ways = next;
        }
        return ways[first];
    }
}
