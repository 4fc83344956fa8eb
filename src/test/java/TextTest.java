/** Promises 1 to 8: a new object, feed, end, text, fault, rule, well, light. */
public final class TextTest {
    private static final Check CHECK = new Check("TextTest");

    public static void main(String[] args) {
        newObject();
        feedAndEnd();
        takenTexts();
        noTokens();
        misplaced();
        outOfBounds();
        twice();
        tooMany();
        wordsBehindAll();
        firstFaultMet();
        whatStays();
        wellsAndLight();
        CHECK.end();
    }

    private static void newObject() {
        BucketSheet x = new BucketSheet();
        int[] rules = {200, 0, 0, 0, 1, 1, 3};
        for (int i = 0; i < 7; i++) {
            CHECK.due("rule(" + i + ")", x.rule(i), rules[i]);
        }
        for (int w = 0; w < 48; w++) {
            for (int what = 0; what < 5; what++) {
                CHECK.due("well(" + w + ", " + what + ")", x.well(w, what), 0);
            }
        }
        for (int c = 0; c < 8; c++) {
            CHECK.due("line(" + c + ")", x.line(c), 0);
        }
        for (int what = 0; what < 7; what++) {
            CHECK.due("now(" + what + ")", x.now(what), 0);
            CHECK.due("count(" + what + ")", x.count(what), what == 5 ? BucketSheet.NONE : 0);
        }
        CHECK.due("fault()", x.fault(), 0);
        CHECK.due("torn()", x.torn(), 0);
        CHECK.due("words(0)", x.words(0), BucketSheet.BAD);
        for (int k = 0; k < 4; k++) {
            CHECK.due("lay(" + k + ", 0, 0)", x.lay(k, 0, 0), -11);
        }
        CHECK.due("rule(-1)", x.rule(-1), BucketSheet.BAD);
        CHECK.due("rule(7)", x.rule(7), BucketSheet.BAD);
        CHECK.due("rule(min)", x.rule(Integer.MIN_VALUE), BucketSheet.BAD);
    }

    private static void feedAndEnd() {
        BucketSheet x = new BucketSheet();
        for (int i = 1; i <= 50; i++) {
            CHECK.due("feed " + i, x.feed(0x2020202020202020L), 8 * i);
        }
        CHECK.due("feed 51", x.feed(0), BucketSheet.FULL);
        CHECK.due("count(4)", x.count(4), 400);
        CHECK.due("end(401)", x.end(401), BucketSheet.BAD);
        CHECK.due("end(-1)", x.end(-1), BucketSheet.BAD);
        CHECK.due("end(400)", x.end(400), 400);
        CHECK.due("end(393)", x.end(393), 400);
        CHECK.due("feed at 393", x.feed(0), BucketSheet.FULL);
        CHECK.due("end(392)", x.end(392), 393);
        CHECK.due("end(393) of 392", x.end(393), BucketSheet.BAD);
        CHECK.due("feed at 392", x.feed(0x3b20202020202020L), 400);
        CHECK.due("text()", x.text(), -10 - 392);
        CHECK.due("fault()", x.fault(), 2);
        CHECK.due("count(4)", x.count(4), 0);
        // the highest byte comes first
        x.feed(0x636170203132333bL);
        CHECK.due("text() of cap 123;", x.text(), 1);
        CHECK.due("rule(0)", x.rule(0), 123);
    }

    private static void takenTexts() {
        BucketSheet x = CHECK.told("cap 999;dark 9;drain;smear 9;gain 9 99;phases 4;clock 0 15;");
        int[] rules = {999, 9, 1, 9, 9, 99, 4};
        for (int i = 0; i < 7; i++) {
            CHECK.due("rule(" + i + ") told", x.rule(i), rules[i]);
        }
        CHECK.due("words(1)", x.words(1), 15);
        CHECK.due("count(2)", x.count(2), 2);
        // what a text does not tell is as at first
        CHECK.due("text() of cap", Check.tell(x, "cap 1;"), 1);
        int[] first = {1, 0, 0, 0, 1, 1, 3};
        for (int i = 0; i < 7; i++) {
            CHECK.due("rule(" + i + ") anew", x.rule(i), first[i]);
        }
        CHECK.due("count(2) anew", x.count(2), 0);
        // blanks where they are not needed, and none where they are not
        CHECK.due("blanks", Check.tell(x, "   row1 02 003 4 5 6 7 99  ;   drain   ; cap5;hot47 1;clock7 6;  "), 5);
        CHECK.due("well(2, 1)", x.well(2, 1), 3);
        CHECK.due("well(7, 1)", x.well(7, 1), 99);
        CHECK.due("well(8, 1)", x.well(8, 1), 0);
        CHECK.due("well(47, 2)", x.well(47, 2), 1);
        CHECK.due("words(0)", x.words(0), 7);
        CHECK.due("words(1)", x.words(1), 6);
        CHECK.due("empty", Check.tell(x, ""), 0);
        CHECK.due("rule(0)", x.rule(0), 200);
        CHECK.due("blank", Check.tell(x, "    "), 0);
        // rows go on, whatever stands between
        CHECK.due("rows", Check.tell(x, "row 1 1 1 1 1 1 1 1;cap 9;row 2 2 2 2 2 2 2 2;"), 3);
        CHECK.due("well(0, 1)", x.well(0, 1), 1);
        CHECK.due("well(15, 1)", x.well(15, 1), 2);
        CHECK.due("well(16, 1)", x.well(16, 1), 0);
        CHECK.due("12 words", Check.tell(x, "clock 0 1 2 3 4 5 6 7 0 1 2 3;"), 1);
        CHECK.due("words(11)", x.words(11), 3);
        CHECK.due("six rows", Check.tell(x, "row 0 0 0 0 0 0 0 0;row 0 0 0 0 0 0 0 0;row 0 0 0 0 0 0 0 0;"
            + "row 0 0 0 0 0 0 0 0;row 0 0 0 0 0 0 0 0;row 0 0 0 0 0 0 0 7;"), 6);
        CHECK.due("well(47, 1)", x.well(47, 1), 7);
        CHECK.due("hot, trap of one", Check.tell(x, "hot 3 99;trap 3 50;hot 4 1;trap 4 1;"), 4);
        CHECK.due("well(3, 2)", x.well(3, 2), 99);
        CHECK.due("well(3, 3)", x.well(3, 3), 50);
    }

    private static void noTokens() {
        CHECK.refused("cap 5.", 1, 5);
        CHECK.refused(".", 1, 0);
        CHECK.refused("  Cap 5;", 1, 2);
        CHECK.refused("cap 0005;", 1, 4);
        CHECK.refused("cap 1234", 1, 4);
        CHECK.refused("1234", 1, 0);
        CHECK.refused("drain 1234;", 1, 6);
        CHECK.refused("cap -5;", 1, 4);
        CHECK.refused("cap\t5;", 1, 3);
        CHECK.refused("cap 5;\n", 1, 6);
        CHECK.refused("cap 5;" + (char) 225, 1, 6);
        CHECK.refused("cap 5;" + (char) 0, 1, 6);
        CHECK.refused("caP 5;", 2, 0);
        CHECK.refused("cap,5;", 1, 3);
        CHECK.refused("row 1 2 3 4 5 6 7 8" + (char) 0xe1, 1, 19);
    }

    private static void misplaced() {
        CHECK.refused(";", 2, 0);
        CHECK.refused("7;", 2, 0);
        CHECK.refused("rows 1;", 2, 0);
        CHECK.refused("ro 1;", 2, 0);
        CHECK.refused("caprow", 2, 0);
        CHECK.refused("drain;;", 2, 6);
        CHECK.refused("cap ;", 2, 4);
        CHECK.refused("cap cap", 2, 4);
        CHECK.refused("cap 5 6;", 2, 6);
        CHECK.refused("cap 5 cap 6;", 2, 6);
        CHECK.refused("cap", 2, 3);
        CHECK.refused("cap   ", 2, 6);
        CHECK.refused("cap 5  ", 2, 7);
        CHECK.refused("clock 1 2 ", 2, 10);
        CHECK.refused("clock 1 drain;", 2, 8);
        CHECK.refused("clock drain;", 2, 6);
        CHECK.refused("row 1 2 3 4 5 6 7;", 2, 17);
        CHECK.refused("row 1 2 3 4 5 6 7 8 9;", 2, 20);
        CHECK.refused("hot 1;", 2, 5);
        CHECK.refused("hot 1 1 1;", 2, 8);
        CHECK.refused("gain 1;", 2, 6);
        CHECK.refused("gain 1 1 1;", 2, 9);
        CHECK.refused("phases three;", 2, 7);
    }

    private static void outOfBounds() {
        CHECK.refused("row 1 2 3 4 5 6 7 100;", 3, 18);
        CHECK.refused("hot 48 1;", 3, 4);
        CHECK.refused("hot 47 0;", 3, 7);
        CHECK.refused("hot 47 100;", 3, 7);
        CHECK.refused("trap 48 1;", 3, 5);
        CHECK.refused("trap 47 0;", 3, 8);
        CHECK.refused("trap 47 51;", 3, 8);
        CHECK.refused("cap 0;", 3, 4);
        CHECK.refused("dark 10;", 3, 5);
        CHECK.refused("smear 10;", 3, 6);
        CHECK.refused("gain 0 1;", 3, 5);
        CHECK.refused("gain 10 1;", 3, 5);
        CHECK.refused("gain 9 0;", 3, 7);
        CHECK.refused("gain 9 100;", 3, 7);
        CHECK.refused("phases 2;", 3, 7);
        CHECK.refused("phases 5;", 3, 7);
        CHECK.refused("phases 4;clock 3 16;", 3, 17);
    }

    private static void twice() {
        CHECK.refused("hot 1 1;hot 1 1;", 4, 12);
        CHECK.refused("trap 1 1;trap 2 1;trap 1 1;", 4, 23);
        CHECK.refused("cap 1;cap 1;", 4, 6);
        CHECK.refused("dark 0;dark 0;", 4, 7);
        CHECK.refused("drain;drain;", 4, 6);
        CHECK.refused("smear 0;smear 0;", 4, 8);
        CHECK.refused("gain 1 1;gain 1 1;", 4, 9);
        CHECK.refused("phases 3;phases 3;", 4, 9);
        CHECK.refused("clock 1;clock 1;", 4, 8);
    }

    private static void tooMany() {
        String row = "row 0 0 0 0 0 0 0 0;";
        CHECK.refused(row + row + row + row + row + row + row, 5, 120);
        CHECK.refused(row + row + row + row + row + row + "row", 5, 120);
        CHECK.refused("clock 1 1 1 1 1 1 1 1 1 1 1 1 1;", 5, 30);
        CHECK.refused("clock 1 1 1 1 1 1 1 1 1 1 1 1 99;", 3, 30);
        CHECK.refused("clock 1 1 1 1 1 1 1 1 1 1 1 1 1234;", 1, 30);
        CHECK.refused("clock 1 1 1 1 1 1 1 1 1 1 1 1 row;", 2, 30);
    }

    private static void wordsBehindAll() {
        CHECK.refused("clock 8;", 6, 8);
        CHECK.refused("clock 7 15;phases 3;   ", 6, 23);
        CHECK.refused("clock 8;cap 0;", 3, 12);
        CHECK.refused("clock 8;cap", 2, 11);
        BucketSheet x = new BucketSheet();
        CHECK.due("words ahead of phases", Check.tell(x, "clock 8;phases 4;"), 2);
        CHECK.due("words(0)", x.words(0), 8);
        CHECK.due("clock 7", Check.tell(x, "clock 7;"), 1);
    }

    /** A TOKEN is read only when the one before has been taken. */
    private static void firstFaultMet() {
        CHECK.refused("cap 0 .", 3, 4);
        CHECK.refused("hot 48 .", 3, 4);
        CHECK.refused("hot 1 1;hot 1 .", 4, 12);
        CHECK.refused("hot 1 1;hot 1 0;", 4, 12);
        CHECK.refused("drain;drain.", 4, 6);
        CHECK.refused("cap 1;cap 0;", 4, 6);
        CHECK.refused("nine .", 2, 0);
        CHECK.refused("cap cap.", 2, 4);
        CHECK.refused("cap . cap", 1, 4);
    }

    private static void whatStays() {
        BucketSheet x = CHECK.told("cap 50;row 1 2 3 4 5 6 7 8;hot 9 9;trap 10 5;clock 1 3 2;");
        x.expose(3);
        x.down();
        x.keep(0);
        x.sheet(2, 1, 7);
        long wells = x.now(0);
        long came = x.now(6);
        CHECK.due("a text that is refused", Check.tell(x, "row 9 9 9 9 9 9 9 9;cap 9;hot 1 1;trap 1 1;clock 7;x"), -10 - 51);
        CHECK.due("fault()", x.fault(), 2);
        CHECK.due("fault() again", x.fault(), 2);
        CHECK.due("rule(0)", x.rule(0), 50);
        CHECK.due("well(0, 1)", x.well(0, 1), 1);
        CHECK.due("well(9, 2)", x.well(9, 2), 9);
        CHECK.due("well(1, 2)", x.well(1, 2), 0);
        CHECK.due("well(10, 3)", x.well(10, 3), 5);
        CHECK.due("well(1, 3)", x.well(1, 3), 0);
        CHECK.due("words(2)", x.words(2), 2);
        CHECK.due("now(0)", x.now(0), wells);
        CHECK.due("now(6)", x.now(6), came);
        CHECK.due("count(3)", x.count(3), 1);
        x.reads(0, 0, 0, 1);
        CHECK.due("a text that is taken", Check.tell(x, "trap 10 5;"), 1);
        CHECK.due("fault()", x.fault(), 0);
        for (int what = 0; what < 7; what++) {
            CHECK.due("now(" + what + ")", x.now(what), 0);
        }
        CHECK.due("well(10, 4)", x.well(10, 4), 0);
        CHECK.due("count(3)", x.count(3), 0);
        CHECK.due("back(0)", x.back(0), BucketSheet.STATE);
        CHECK.due("lay(2, 6, 1)", x.lay(2, 6, 1), 1);
        CHECK.due("torn()", x.torn(), 1);
    }

    private static void wellsAndLight() {
        BucketSheet x = CHECK.told("trap 9 20;hot 0 5;");
        CHECK.due("light(0, 99)", x.light(0, 99), 0);
        CHECK.due("light(0, 7)", x.light(0, 7), 99);
        CHECK.due("light(0, 100)", x.light(0, 100), BucketSheet.BAD);
        CHECK.due("light(0, -1)", x.light(0, -1), BucketSheet.BAD);
        CHECK.due("light(48, 0)", x.light(48, 0), BucketSheet.BAD);
        CHECK.due("light(-1, 0)", x.light(-1, 0), BucketSheet.BAD);
        CHECK.due("light(1, 10)", x.light(1, 10), 0);
        x.expose(1);
        x.down();
        CHECK.due("well(0, 0)", x.well(0, 0), 0);
        CHECK.due("well(0, 1)", x.well(0, 1), 7);
        CHECK.due("well(0, 2)", x.well(0, 2), 5);
        CHECK.due("well(8, 0)", x.well(8, 0), 12);
        CHECK.due("well(9, 0)", x.well(9, 0), 0);
        CHECK.due("well(9, 3)", x.well(9, 3), 20);
        CHECK.due("well(9, 4)", x.well(9, 4), 10);
        CHECK.due("well(-1, 0)", x.well(-1, 0), BucketSheet.BAD);
        CHECK.due("well(48, 0)", x.well(48, 0), BucketSheet.BAD);
        CHECK.due("well(0, -1)", x.well(0, -1), BucketSheet.BAD);
        CHECK.due("well(0, 5)", x.well(0, 5), BucketSheet.BAD);
    }
}
