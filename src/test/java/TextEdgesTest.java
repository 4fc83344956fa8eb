/** The edges of "Terms" 1 and of promises 1 to 8: THE TAPE, TOKENS, lines, FAULTS, what a text leaves. */
public final class TextEdgesTest {
    private static final Check CHECK = new Check("TextEdgesTest");
    private static final String ROW = "row 0 0 0 0 0 0 0 0;";
    private static final String[] LINES = {"row 1 2 3 4 5 6 7 8 ;", "hot 1 1 ;", "trap 1 1 ;", "cap 1 ;", "dark 1 ;",
        "drain ;", "smear 1 ;", "gain 1 1 ;", "phases 3 ;", "clock 1 2 ;"};
    private static final String TELLS_MUCH = "row 9 9 9 9 9 9 9 9;cap 9;dark 9;drain;smear 9;gain 9 9;phases 4;hot 1 1;"
        + "trap 1 1;clock 7 8;";

    public static void main(String[] args) {
        answersAreNumbers();
        asToldAtFirst();
        tapeIsFull();
        highestByteFirst();
        tapeKeepsItsFirst();
        tapeIsEmptyThen();
        placesFrom0();
        everyByte();
        tokensAsLongAsMayBe();
        blanksBetween();
        figures();
        bounds();
        rowsOfText();
        wordsOfText();
        noTokenAnywhere();
        misplacedInEachLine();
        namesThatBeginNoLine();
        theSecondTime();
        the7thAnd13th();
        behindAll();
        firstMet();
        countsLines();
        takenTellsAll();
        refusedLeavesAll();
        latestFault();
        asked();
        CHECK.end();
    }

    private static String blanks(int n) {
        return " ".repeat(n);
    }

    private static BucketSheet fed(String text) {
        BucketSheet x = new BucketSheet();
        Check.feed(x, text);
        return x;
    }

    private static BucketSheet taken(String text, int lines) {
        BucketSheet x = fed(text);
        CHECK.due("count(4) of '" + text + "'", x.count(4), text.length());
        CHECK.due("text() of '" + text + "'", x.text(), lines);
        CHECK.due("fault() of '" + text + "'", x.fault(), 0);
        return x;
    }

    private static void answersAreNumbers() {
        CHECK.says("Answers: BAD -1 (a number is not as told, there is no such WELL, WORD, IMAGE, SHEET), STATE -2 (as told),"
            + " FULL -3, NONE -4 (there is none)");
        CHECK.due("BAD", BucketSheet.BAD, -1);
        CHECK.due("STATE", BucketSheet.STATE, -2);
        CHECK.due("FULL", BucketSheet.FULL, -3);
        CHECK.due("NONE", BucketSheet.NONE, -4);
    }

    private static void asToldAtFirst() {
        CHECK.says("As told at first; THE ROUND has no WORDS; SHEETS of nothing.");
        CHECK.alike("an empty text is as at first", BucketSheet::new, () -> CHECK.told(""));
        BucketSheet x = new BucketSheet();
        int[] rules = {200, 0, 0, 0, 1, 1, 3};
        for (int what = 0; what < 7; what++) {
            CHECK.due("rule(" + what + ")", x.rule(what), rules[what]);
            CHECK.due("now(" + what + ")", x.now(what), 0);
            CHECK.due("count(" + what + ")", x.count(what), what == 5 ? BucketSheet.NONE : 0);
        }
        for (int w = 0; w < 48; w++) {
            for (int what = 0; what < 5; what++) {
                CHECK.due("well(" + w + ", " + what + ")", x.well(w, what), 0);
            }
            CHECK.due("line(" + w % 8 + ")", x.line(w % 8), 0);
        }
        CHECK.due("fault()", x.fault(), 0);
        CHECK.due("torn()", x.torn(), 0);
        CHECK.due("words(0)", x.words(0), BucketSheet.BAD);
        CHECK.due("text() of a new tape", x.text(), 0);
        CHECK.due("end(0) of a new tape", x.end(0), 0);
        CHECK.due("end(1) of a new tape", x.end(1), BucketSheet.BAD);
        CHECK.due("still()", x.still(), 0);
        CHECK.due("clock(0)", x.clock(0), BucketSheet.STATE);
        CHECK.due("back(0)", x.back(0), BucketSheet.STATE);
        CHECK.due("back(1)", x.back(1), BucketSheet.STATE);
        CHECK.due("clear()", x.clear(), 0);
        CHECK.due("count(5)", x.count(5), BucketSheet.NONE);
        for (int k = 0; k < 4; k++) {
            CHECK.due("reads(" + k + ", 0, 0, 1)", x.reads(k, 0, 0, 1), 0);
            CHECK.due("torn() of nothing", x.torn(), 1);
        }
    }

    private static void tapeIsFull() {
        CHECK.says("FULL: more than 400.");
        for (int length = 0; length <= 400; length++) {
            BucketSheet x = fed(blanks(length));
            CHECK.due("feed behind " + length, x.feed(0), length > 392 ? BucketSheet.FULL : length + 8);
            CHECK.due("count(4) then", x.count(4), length > 392 ? length : length + 8);
        }
        BucketSheet x = fed(blanks(395) + "drain");
        CHECK.due("feed(\";;;;;;;;\")", x.feed(0x3b3b3b3b3b3b3b3bL), BucketSheet.FULL);
        CHECK.due("nothing of it came: text()", x.text(), -10 - 400);
        x = fed(blanks(394) + "drain;");
        CHECK.due("feed(0)", x.feed(0), BucketSheet.FULL);
        CHECK.due("what was there stays: text()", x.text(), 1);
        CHECK.due("feed on an empty tape", x.feed(0), 8);
    }

    private static void highestByteFirst() {
        CHECK.says("Eight bytes come behind THE TAPE, the highest first: how many it has.");
        BucketSheet x = new BucketSheet();
        CHECK.due("feed", x.feed(0x2020202020202020L), 8);
        CHECK.due("feed", x.feed(0x636170203938373bL), 16);
        CHECK.due("text()", x.text(), 1);
        CHECK.due("rule(0)", x.rule(0), 987);
        long[] numbers = {0, -1, Long.MIN_VALUE, Long.MAX_VALUE, 0x2000000000000000L, 0x20202020202020e1L};
        int[] places = {0, 0, 0, 0, 1, 7};
        for (int i = 0; i < numbers.length; i++) {
            x.feed(numbers[i]);
            CHECK.due("text() of feed(" + numbers[i] + ")", x.text(), -10 - places[i]);
            CHECK.due("fault()", x.fault(), 1);
        }
    }

    private static void tapeKeepsItsFirst() {
        CHECK.says("THE TAPE keeps its first n bytes: how many it had. BAD (n above that, too).");
        for (int had = 0; had <= 400; had += 40) {
            String text = blanks(had);
            CHECK.bounds("end() of " + had, 0, had, () -> fed(text), (x, n) -> x.end(n));
        }
        BucketSheet x = fed("cap 123;");
        CHECK.due("end(8) of all", x.end(8), 8);
        CHECK.due("end(9)", x.end(9), BucketSheet.BAD);
        CHECK.due("end(6)", x.end(6), 8);
        CHECK.due("end(7): the bytes are gone", x.end(7), BucketSheet.BAD);
        CHECK.due("end(6) again", x.end(6), 6);
        CHECK.due("feed behind 6", x.feed(0x3b20202020202020L), 14);
        CHECK.due("text()", x.text(), 1);
        CHECK.due("rule(0)", x.rule(0), 12);
        x = fed("cap 123;");
        CHECK.due("end(0)", x.end(0), 8);
        CHECK.due("end(0) of none", x.end(0), 0);
        CHECK.due("text() of none", x.text(), 0);
        CHECK.due("rule(0)", x.rule(0), 200);
    }

    private static void tapeIsEmptyThen() {
        CHECK.says("THE TAPE (empty then, by a FAULT, too) tells all");
        String[] texts = {"", "drain;", ".", ";", "cap 0;", "drain;drain;", ROW.repeat(7), "clock 8;", blanks(400)};
        for (String text : texts) {
            BucketSheet x = fed(text);
            x.text();
            CHECK.due("count(4) behind '" + text + "'", x.count(4), 0);
            CHECK.due("end(1)", x.end(1), BucketSheet.BAD);
            CHECK.due("text() again", x.text(), 0);
            CHECK.due("fault() of none", x.fault(), 0);
        }
    }

    private static void placesFrom0() {
        CHECK.says("THE TAPE has 400 bytes, places from 0.");
        for (int place = 0; place < 400; place++) {
            CHECK.refused(blanks(place) + ".", 1, place);
            CHECK.refused(blanks(place) + ";" + blanks(399 - place), 2, place);
        }
        for (int length = 0; length <= 400; length++) {
            taken(blanks(length), 0);
        }
        taken(blanks(394) + "drain;", 1);
        taken("drain;" + blanks(394), 1);
        taken("drain" + blanks(394) + ";", 1);
        CHECK.says("or the end: the length");
        for (int length = 3; length <= 400; length++) {
            CHECK.refused(blanks(length - 3) + "cap", 2, length);
            CHECK.refused("cap" + blanks(length - 3), 2, length);
        }
    }

    /** One byte ahead of a line, behind a NAME, behind a NUMBER. */
    private static void everyByte() {
        CHECK.says("NAMES (a .. z), NUMBERS (1 to 3 figures), the sign ; (a point is none).");
        for (int b = 0; b < 256; b++) {
            char sign = (char) b;
            if (sign == ' ') {
                taken(" ", 0);
                taken("drain ;", 1);
                taken("dark 0 ;", 1);
            } else if (sign == ';') {
                CHECK.refused(";", 2, 0);
                taken("drain;", 1);
                taken("dark 0;", 1);
            } else if (sign >= 'a' && sign <= 'z') {
                CHECK.refused("" + sign, 2, 0);
                CHECK.refused("drain" + sign + ";", 2, 0);
                CHECK.refused("dark 0" + sign + ";", 2, 6);
            } else if (sign >= '0' && sign <= '9') {
                CHECK.refused("" + sign, 2, 0);
                CHECK.refused("drain" + sign + ";", 2, 5);
                taken("dark 0" + sign + ";", 1);
            } else {
                CHECK.refused("" + sign, 1, 0);
                CHECK.refused("drain" + sign + ";", 1, 5);
                CHECK.refused("dark 0" + sign + ";", 1, 6);
            }
        }
    }

    private static void tokensAsLongAsMayBe() {
        CHECK.says("TOKENS, each as long as may be");
        CHECK.refused("drainrow", 2, 0);
        CHECK.refused("drai;", 2, 0);
        CHECK.refused("a".repeat(400), 2, 0);
        CHECK.refused("drain".repeat(80), 2, 0);
        CHECK.refused(" " + "z".repeat(399), 2, 1);
        CHECK.refused("1".repeat(400), 1, 0);
        CHECK.refused("cap " + "0".repeat(396), 1, 4);
        // a NUMBER and a NAME end one another
        CHECK.refused("cap 5cap 5;", 2, 5);
        CHECK.refused("cap 5a5;", 2, 5);
        taken("cap999;", 1);
        // the sign is one byte
        CHECK.refused("drain;;", 2, 6);
    }

    private static void blanksBetween() {
        CHECK.says("blanks (32) ahead, between, behind, as many as wanted (at least one between two NAMES, between two NUMBERS;"
            + " else none is needed)");
        BucketSheet x = taken("row1 2 3 4 5 6 7 8;hot5 6;trap7 8;cap9;dark1;drain;smear2;gain3 4;phases4;clock5 6;", 10);
        CHECK.due("well(7, 1)", x.well(7, 1), 8);
        CHECK.due("well(5, 2)", x.well(5, 2), 6);
        CHECK.due("well(7, 3)", x.well(7, 3), 8);
        int[] rules = {9, 1, 1, 2, 3, 4, 4};
        for (int what = 0; what < 7; what++) {
            CHECK.due("rule(" + what + ")", x.rule(what), rules[what]);
        }
        CHECK.due("words(1)", x.words(1), 6);
        x = taken(blanks(9) + "gain" + blanks(99) + "3" + blanks(99) + "4" + blanks(99) + ";" + blanks(85), 1);
        CHECK.due("rule(5)", x.rule(5), 4);
        // without the blank two NUMBERS are one, two NAMES are one
        CHECK.refused("gain 12;", 3, 5);
        CHECK.refused("gain 34 ;", 3, 5);
        CHECK.refused("gain 1 234;", 3, 7);
        CHECK.refused("drain;drainrow;", 2, 6);
        CHECK.refused("drain row;", 2, 6);
    }

    private static void figures() {
        CHECK.says("1 no TOKEN, a NUMBER that is too long (its first byte).");
        for (String cap : new String[] {"7", "07", "007"}) {
            CHECK.due("rule(0) of " + cap, taken("cap " + cap + ";", 1).rule(0), 7);
        }
        taken("dark 000;", 1);
        CHECK.refused("cap 0007;", 1, 4);
        CHECK.refused("dark 0000;", 1, 5);
        CHECK.refused("cap 1000;", 1, 4);
        CHECK.refused("cap 4294967297;", 1, 4);
        // wherever it stands: at a line's beginning, in place of another TOKEN, in place of a NUMBER out of its bounds
        CHECK.refused("1000", 1, 0);
        CHECK.refused("drain1000;", 1, 5);
        CHECK.refused("drain;0000", 1, 6);
        CHECK.refused("dark 0001;", 1, 5);
        CHECK.refused("clock 1 0001;", 1, 8);
    }

    /** All NUMBERS of three figures in one place of a line: those in bounds are taken, the others are FAULT 3 there. */
    private static void bounded(String ahead, String behind, int least, int most) {
        for (int n = 0; n <= 999; n++) {
            String text = ahead + n + behind;
            if (n >= least && n <= most) {
                taken(text, text.length() - text.replace(";", "").length());
            } else {
                CHECK.refused(text, 3, ahead.length());
            }
        }
    }

    private static void bounds() {
        CHECK.says("3 a NUMBER out of its bounds.");
        for (int c = 0; c < 8; c++) {
            bounded("row " + "0 ".repeat(c), " 0".repeat(7 - c) + ";", 0, 99);
        }
        CHECK.says("hot: a WELL, its HOT part (1 to 99). trap: a WELL, its TRAP (1 to 50).");
        bounded("hot ", " 1;", 0, 47);
        bounded("hot 47 ", ";", 1, 99);
        bounded("trap ", " 1;", 0, 47);
        bounded("trap 47 ", ";", 1, 50);
        CHECK.says("RULES: 0 cap (1 to 999; 200), 1 dark (0 to 9; 0), 2 drain (1, 0; 0), 3 smear (0 to 9; 0), 4 gain (1 to 9; 1),"
            + " 5 by (1 to 99; 1), 6 phases (3, 4; 3).");
        bounded("cap ", ";", 1, 999);
        bounded("dark ", ";", 0, 9);
        bounded("smear ", ";", 0, 9);
        bounded("gain ", " 1;", 1, 9);
        bounded("gain 1 ", ";", 1, 99);
        bounded("phases ", ";", 3, 4);
        CHECK.says("clock: THE ROUND: 12 WORDS at most, 0 to 15 each.");
        bounded("phases 4;clock ", ";", 0, 15);
        bounded("phases 4;clock 1 1 1 1 1 1 1 1 1 1 1 ", ";", 0, 15);
        // both ends of each are told as they stand
        int[] most = {999, 9, 1, 9, 9, 99, 4};
        int[] least = {1, 0, 0, 0, 1, 1, 3};
        BucketSheet x = taken("cap 999;dark 9;drain;smear 9;gain 9 99;phases 4;hot 0 99;hot 47 1;trap 0 50;trap 47 1;", 10);
        BucketSheet y = taken("cap 1;dark 0;smear 0;gain 1 1;phases 3;", 5);
        for (int what = 0; what < 7; what++) {
            CHECK.due("rule(" + what + ") at most", x.rule(what), most[what]);
            CHECK.due("rule(" + what + ") at least", y.rule(what), least[what]);
        }
        CHECK.due("well(0, 2)", x.well(0, 2), 99);
        CHECK.due("well(47, 2)", x.well(47, 2), 1);
        CHECK.due("well(0, 3)", x.well(0, 3), 50);
        CHECK.due("well(47, 3)", x.well(47, 3), 1);
    }

    private static void rowsOfText() {
        CHECK.says("row: LIGHT of the next ROW (6 at most; of those that are not told 0).");
        for (int rows = 0; rows <= 6; rows++) {
            StringBuilder text = new StringBuilder();
            for (int r = 0; r < rows; r++) {
                text.append("row");
                for (int c = 0; c < 8; c++) {
                    text.append(" ").append(10 * r + c + 1);
                }
                text.append(r == 0 ? ";cap 99;" : ";");
            }
            BucketSheet x = new BucketSheet();
            for (int w = 0; w < 48; w++) {
                x.light(w, 77);
            }
            Check.tell(x, text.toString());
            for (int w = 0; w < 48; w++) {
                CHECK.due("well(" + w + ", 1) of " + rows + " rows", x.well(w, 1), w / 8 < rows ? w / 8 * 10 + w % 8 + 1 : 0);
            }
        }
        CHECK.refused(ROW.repeat(7), 5, 120);
        // 8 NUMBERS, not 7, not 9
        CHECK.refused("row 0 0 0 0 0 0 0;", 2, 17);
        CHECK.refused("row 0 0 0 0 0 0 0 0 0;", 2, 20);
    }

    private static void wordsOfText() {
        CHECK.says("clock N { N } ;");
        CHECK.refused("clock ;", 2, 6);
        CHECK.refused("clock", 2, 5);
        for (int many = 1; many <= 12; many++) {
            StringBuilder text = new StringBuilder("phases 4;clock");
            for (int i = 0; i < many; i++) {
                text.append(" ").append(15 - i);
            }
            BucketSheet x = taken(text + ";", 2);
            CHECK.due("count(2) of " + many, x.count(2), many);
            for (int i = 0; i < 12; i++) {
                CHECK.due("words(" + i + ") of " + many, x.words(i), i < many ? 15 - i : BucketSheet.BAD);
            }
            CHECK.refused(text.toString(), 2, text.length());
        }
        CHECK.refused("clock" + " 0".repeat(13) + ";", 5, 30);
    }

    /** Ahead of each TOKEN of each line a byte that is none. */
    private static void noTokenAnywhere() {
        CHECK.says("FAULTS, the first met as it is read (a TOKEN is read when the one before has been taken): 1 no TOKEN");
        for (String line : LINES) {
            for (int i = 0; i < line.length(); i++) {
                if (i == 0 || line.charAt(i - 1) == ' ') {
                    CHECK.refused(line.substring(0, i) + "," + line.substring(i), 1, i);
                }
            }
            CHECK.refused(line + "-", 1, line.length());
        }
    }

    /** At each TOKEN of each line: each other kind of TOKEN, and the end. */
    private static void misplacedInEachLine() {
        CHECK.says("2 a TOKEN that can not stand there (a NAME that begins no line; or the end: the length).");
        for (String line : LINES) {
            String[] tokens = line.split(" ");
            String ahead = "";
            for (int i = 0; i < tokens.length; i++) {
                boolean endsRound = tokens[0].equals("clock") && i > 1;
                if (i > 0) {
                    CHECK.refused(ahead + "cap", 2, ahead.length());
                    CHECK.refused(ahead, 2, ahead.length());
                    CHECK.refused(ahead + blanks(7), 2, ahead.length() + 7);
                }
                if (i == 0 || tokens[i].equals(";") && !endsRound) {
                    CHECK.refused(ahead + "1", 2, ahead.length());
                }
                if (!tokens[i].equals(";") && !endsRound) {
                    CHECK.refused(ahead + ";", 2, ahead.length());
                }
                ahead += tokens[i] + " ";
            }
            taken(line, 1);
        }
    }

    private static void namesThatBeginNoLine() {
        CHECK.says("(a NAME that begins no line;");
        for (String line : LINES) {
            String name = line.substring(0, line.indexOf(' '));
            CHECK.refused(name.substring(1) + line.substring(name.length()), 2, 0);
            CHECK.refused(name.substring(0, name.length() - 1) + line.substring(name.length()), 2, 0);
            CHECK.refused(name + "s" + line.substring(name.length()), 2, 0);
            CHECK.refused("a" + line, 2, 0);
            CHECK.refused("drain;" + name + name + line.substring(name.length()), 2, 6);
            // signs that are none end the NAME, or begin none
            CHECK.refused(name.toUpperCase() + line.substring(name.length()), 1, 0);
        }
        CHECK.refused("by 1;", 2, 0);
        CHECK.refused("light 1;", 2, 0);
        CHECK.refused("text", 2, 0);
    }

    private static void theSecondTime() {
        CHECK.says("4 hot, trap of a WELL for the second time (the WELL); any other line but row for the second time (its NAME).");
        for (int w = 0; w < 48; w++) {
            String well = (w < 10 ? "0" : "") + w;
            CHECK.refused("hot " + well + " 1;hot " + well + " 1;", 4, 13);
            CHECK.refused("trap " + well + " 1;trap " + well + " 1;", 4, 15);
            taken("hot " + well + " 1;trap " + well + " 1;hot " + (w + 1) % 48 + " 1;trap " + (w + 1) % 48 + " 1;", 4);
        }
        // whatever stands between, and whatever the part was
        CHECK.refused("hot 3 99;hot 4 1;drain;trap 3 1;hot 3 99;", 4, 36);
        for (int i = 3; i < LINES.length; i++) {
            CHECK.refused(LINES[i] + LINES[i], 4, LINES[i].length());
            CHECK.refused(LINES[i] + ROW + LINES[i], 4, LINES[i].length() + 20);
        }
        taken(LINES[0] + LINES[0], 2);
        // what was told as it is at first counts as told
        CHECK.refused("dark 0;dark 1;", 4, 7);
        CHECK.refused("cap 200;cap 200;", 4, 8);
    }

    private static void the7thAnd13th() {
        CHECK.says("5 the 7th row (its NAME), the 13th WORD (it).");
        taken(ROW.repeat(6), 6);
        taken(ROW.repeat(6) + "cap 5;", 7);
        CHECK.refused(ROW.repeat(6) + "row", 5, 120);
        CHECK.refused(ROW.repeat(6) + "  row;", 5, 122);
        CHECK.refused(ROW.repeat(6) + "row 100 .", 5, 120);
        CHECK.refused(ROW.repeat(6) + "drain;row", 5, 126);
        taken("clock" + " 7".repeat(12) + ";", 1);
        CHECK.refused("clock" + " 7".repeat(13), 5, 30);
        CHECK.refused("clock" + " 7".repeat(14) + ";", 5, 30);
        CHECK.refused("clock" + " 7".repeat(12) + "  7.", 5, 31);
    }

    private static void behindAll() {
        CHECK.says("Behind all (the length): 6 a WORD above 7 with 3 phases.");
        CHECK.says("phases 3: WORDS are looked at behind all.");
        taken("clock 7;", 1);
        taken("phases 3;clock 7;", 2);
        taken("phases 4;clock 15;", 2);
        taken("clock 15;phases 4;", 2);
        for (int word = 8; word < 16; word++) {
            String text = "clock " + word + ";";
            CHECK.refused(text, 6, text.length());
            CHECK.refused("phases 3;" + text, 6, text.length() + 9);
            CHECK.refused(text + "phases 3;", 6, text.length() + 9);
            CHECK.refused(text + "drain;   ", 6, text.length() + 9);
        }
        CHECK.refused("clock" + " 7".repeat(11) + " 8;", 6, 30);
        CHECK.refused("clock 8 8 8;", 6, 12);
        CHECK.refused("clock 8;" + blanks(392), 6, 400);
        // any other FAULT is met ahead of it
        CHECK.refused("clock 8;.", 1, 8);
        CHECK.refused("clock 8;;", 2, 8);
        CHECK.refused("clock 8;cap 0;", 3, 12);
        CHECK.refused("clock 8;clock 8;", 4, 8);
        CHECK.refused("clock 8;" + ROW.repeat(7), 5, 128);
    }

    private static void firstMet() {
        CHECK.says("FAULTS, the first met as it is read (a TOKEN is read when the one before has been taken)");
        CHECK.refused("cap 0.", 3, 4);
        CHECK.refused("cap 0 5;", 3, 4);
        CHECK.refused("hot 48 0;", 3, 4);
        CHECK.refused("hot 1 1;hot 1 1000;", 4, 12);
        CHECK.refused("hot 1 1;hot 1;", 4, 12);
        CHECK.refused("hot 1 1;hot 48 1;", 3, 12);
        CHECK.refused("trap 1 1;trap 1.", 4, 14);
        CHECK.refused("drain;drain 1000", 4, 6);
        CHECK.refused("cap 5;cap;", 4, 6);
        CHECK.refused("gain 0 0;", 3, 5);
        CHECK.refused("gain 1 .", 1, 7);
        CHECK.refused("row 100 100 .", 3, 4);
        CHECK.refused("clock 16 .", 3, 6);
        CHECK.refused("drain cap 0;", 2, 6);
        CHECK.refused("rows .", 2, 0);
    }

    private static void countsLines() {
        CHECK.says("how many lines; -10 less the place of its FAULT: that which was told stays.");
        StringBuilder text = new StringBuilder();
        for (int lines = 0; lines <= 40; lines++) {
            taken(text.toString(), lines);
            text.append("hot ").append(lines).append(" 1;");
        }
        CHECK.refused(".", 1, 0);
        CHECK.refused(blanks(399) + ".", 1, 399);
        CHECK.refused(blanks(395) + "drain", 2, 400);
    }

    private static BucketSheet used() {
        BucketSheet x = CHECK.told("cap 20;dark 1;drain;smear 2;gain 3 2;phases 4;hot 9 7;trap 16 9;row 30 2 3 4 5 6 7 8;clock 9 3;");
        x.expose(2);
        x.keep(0);
        for (int i = 0; i < 6; i++) {
            x.down();
        }
        x.read();
        x.keep(1);
        return x;
    }

    private static void takenTellsAll() {
        CHECK.says("A text that is taken tells all, in place of what there was (what it does not tell is as at first); no CHARGE"
            + " anywhere, TRAPS hold nothing, no sums; IMAGES are gone;");
        String[] texts = {"", "cap 7;", "drain;hot 1 2;", "clock 1;trap 40 3;", "phases 3;gain 1 9;" + ROW, TELLS_MUCH};
        for (String text : texts) {
            CHECK.alike("'" + text + "'", () -> {
                BucketSheet x = used();
                Check.tell(x, text);
                return x;
            }, () -> CHECK.told(text));
        }
        CHECK.says("SHEETS stay.");
        BucketSheet x = new BucketSheet();
        int[] lengths = {0, 40, 3};
        for (int k = 0; k < 3; k++) {
            x.sheet(k, k, lengths[k]);
        }
        x.lay(1, 0, 5);
        x.lay(1, 1, 6);
        x.reads(2, 0, 0, 1);
        Check.tell(x, "drain;");
        CHECK.due("torn() stays", x.torn(), 3);
        CHECK.due("count(5)", x.count(5), 0);
        CHECK.due("lay(1, 39, 0)", x.lay(1, 39, 0), 1);
        CHECK.due("lay(2, 2, 0)", x.lay(2, 2, 0), 1);
        CHECK.due("lay(2, 3, 0)", x.lay(2, 3, 0), -12);
        CHECK.due("lay(3, 0, 0)", x.lay(3, 0, 0), -11);
        CHECK.due("reads(1, 1, 0, 1)", x.reads(1, 1, 0, 1), 1);
        CHECK.due("well(5, 1)", x.well(5, 1), 6);
    }

    /** The other one of the two is refused for the same FAULT, but its text has told nothing by then. */
    private static void refusedLeavesAll() {
        CHECK.says("that which was told stays.");
        String[] behind = {".", ";", "trap 2 0;", "drain;", ROW.repeat(6), ""};
        String[] short1 = {".", ";", "cap 0;", "drain;drain;", ROW.repeat(7), "clock 8;"};
        for (int i = 0; i < 6; i++) {
            int fault = i + 1;
            String much = (fault == 6 ? TELLS_MUCH.replace("phases 4", "phases 3") : TELLS_MUCH) + behind[i];
            String little = short1[i];
            CHECK.alike("FAULT " + fault, () -> refusedOf(much, fault), () -> refusedOf(little, fault));
        }
    }

    private static BucketSheet refusedOf(String text, int fault) {
        BucketSheet x = used();
        Check.tell(x, text);
        CHECK.due("fault() of '" + text + "'", x.fault(), fault);
        return x;
    }

    private static void latestFault() {
        CHECK.says("The FAULT of the latest text(); 0.");
        BucketSheet x = new BucketSheet();
        CHECK.due("fault() of a new object", x.fault(), 0);
        String[] texts = {".", ";", "cap 0;", "drain;drain;", ROW.repeat(7), "clock 8;", "drain;", "clock 8;", ""};
        int[] faults = {1, 2, 3, 4, 5, 6, 0, 6, 0};
        for (int i = 0; i < texts.length; i++) {
            Check.feed(x, texts[i]);
            CHECK.due("fault() ahead of text()", x.fault(), i == 0 ? 0 : faults[i - 1]);
            x.text();
            CHECK.due("fault() of '" + texts[i] + "'", x.fault(), faults[i]);
            CHECK.due("fault() again", x.fault(), faults[i]);
        }
    }

    private static void asked() {
        CHECK.says("RULES 0 to 6. BAD.");
        CHECK.bounds("rule()", 0, 6, BucketSheet::new, (x, n) -> x.rule(n));
        CHECK.says("Of a WELL: 0 CHARGE, 1 LIGHT, 2 HOT, 3 TRAP, 4 what that holds. BAD.");
        CHECK.bounds("well(.., 0)", 0, 47, BucketSheet::new, (x, n) -> x.well(n, 0));
        CHECK.bounds("well(.., 4)", 0, 47, BucketSheet::new, (x, n) -> x.well(n, 4));
        CHECK.bounds("well(0, ..)", 0, 4, BucketSheet::new, (x, n) -> x.well(0, n));
        CHECK.bounds("well(47, ..)", 0, 4, BucketSheet::new, (x, n) -> x.well(47, n));
        CHECK.due("well(48, 5)", new BucketSheet().well(48, 5), BucketSheet.BAD);
        CHECK.says("LIGHT of a WELL becomes v (0 to 99): what it was. BAD.");
        CHECK.bounds("light(.., 0)", 0, 47, BucketSheet::new, (x, n) -> x.light(n, 0));
        CHECK.bounds("light(0, ..)", 0, 99, BucketSheet::new, (x, n) -> x.light(0, n));
        CHECK.bounds("light(47, ..)", 0, 99, BucketSheet::new, (x, n) -> x.light(47, n));
        BucketSheet x = new BucketSheet();
        for (int w = 0; w < 48; w++) {
            CHECK.due("light(" + w + ", 99)", x.light(w, 99), 0);
            CHECK.due("light(" + w + ", 100)", x.light(w, 100), BucketSheet.BAD);
            CHECK.due("light(" + w + ", -1)", x.light(w, -1), BucketSheet.BAD);
            CHECK.due("light(" + w + ", 0)", x.light(w, 0), 99);
            CHECK.due("light(" + w + ", " + w + ")", x.light(w, w), 0);
        }
        for (int w = 0; w < 48; w++) {
            CHECK.due("well(" + w + ", 1)", x.well(w, 1), w);
        }
    }
}
