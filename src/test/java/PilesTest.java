/** Promises 1 to 7: a new object, THE TEXT, THINGS, END, sheets. */
public final class PilesTest {
    private static final Due D = new Due();

    public static void main(String[] args) {
        newObject();
        signs();
        ends();
        readings();
        wrongSigns();
        numbers();
        noRoom();
        longTexts();
        refusedReadings();
        things();
        byEnd();
        sheets();
        D.close("PilesTest");
    }

    private static void newObject() {
        AllAboveIt x = new AllAboveIt();
        for (int what = 0; what < 8; what++) {
            D.due("1 new: count(" + what + ")", x.count(what), 0);
        }
        D.due("1 new: again(0)", x.again(0), false);
        D.due("1 new: undo()", x.undo(), -1);
        D.due("1 new: thing(0, 0)", Due.thingThrows(x, 0, 0), true);
        D.due("1 new: row(0)", Due.rowThrows(x, 0), true);
    }

    private static void signs() {
        AllAboveIt x = new AllAboveIt();
        for (int k = 1; k <= 20; k++) {
            D.due("2 sign", x.sign(0x313A3120), 4 * k);
        }
        D.due("2 sign, the 81st", x.sign(0), -1);
        D.due("2 refused: count(7)", x.count(7), 80);
        x.end(77);
        D.due("2 sign behind 77", x.sign(0), -1);
        x.end(76);
        D.due("2 sign behind 76", x.sign(0), 80);
        x.end(0);
        D.due("2 the highest byte first", piledBy(x, 0x393A363B, 0x323A3172), 2);
        D.due("2 WORTH", x.thing(0, 0), 9);
        D.due("2 HEIRS", x.thing(0, 1), 6);
        D.due("2 BACK", x.thing(1, 4), 1);
        x.sign(0xFFFFFFFF);
        D.due("2 a sign 255", x.piles(), -1);
    }

    private static int piledBy(AllAboveIt x, int v, int w) {
        x.sign(v);
        x.sign(w);
        return x.piles();
    }

    private static void ends() {
        AllAboveIt x = new AllAboveIt();
        D.due("3 end(1) of none", x.end(1), false);
        D.due("3 end(0) of none", x.end(0), true);
        x.sign(0x313A337A);
        D.due("3 end(-1)", x.end(-1), false);
        D.due("3 end(5)", x.end(5), false);
        D.due("3 end(MIN)", x.end(Integer.MIN_VALUE), false);
        D.due("3 refused: count(7)", x.count(7), 4);
        D.due("3 end(4)", x.end(4), true);
        D.due("3 end(3)", x.end(3), true);
        D.due("3 count(7)", x.count(7), 3);
        D.due("3 end(4) of 3", x.end(4), false);
        D.due("3 what is left", x.piles(), 1);
    }

    private static void readings() {
        AllAboveIt x = new AllAboveIt();
        D.due("4 one", Due.piles(x, "1:7"), 1);
        D.due("4 it empties THE TEXT", x.count(7), 0);
        D.due("4 more behind those there are", Due.piles(x, "2:1^0;0:2^0,1r"), 2);
        D.due("4 THINGS", x.count(0), 3);
        D.due("4 on THINGS told earlier", x.thing(2, 2), 3);
        x.move(2);
        x.move(16);
        x.ends(1);
        D.due("4 MOVES", x.count(2), 0);
        x.move(0);
        x.move(-1);
        D.due("4 a MOVE", x.count(2), 1);
        D.due("4 an empty one tells none", x.piles(), 0);
        D.due("4 then all are THERE", x.count(1), 7);
        D.due("4 no MOVE made", x.count(2), 0);
        D.due("4 HEIR 0 on turn", x.count(3), 0);
        D.due("4 END stays", x.count(5), 1);
        x.move(0);
        x.move(16);
        D.due("4 more", Due.piles(x, "3:3"), 1);
        D.due("4 all THERE", x.count(1), 15);
        D.due("4 nothing was put back", x.count(4), 0);
        D.due("4 HEIR 0", x.count(3), 0);
    }

    private static void wrongSigns() {
        String[] texts = {"", ":", "1", "1;", "1:", "1:0", "1:8", "1:3 ", "1:3r", "1:3rr", "1:3r^0", "1:3;", "1:3;;",
            "1:3;a", "1:3;1", "1:3;1:", "1:3;1:1^", "1:3;1:1^r", "1:3;1:1^,", "1:3;1:1^0", "1:3;1:1^0,",
            "1:3;1:1^0,r", "1:3;1:1^0^", "1:3;1:1^0r", "1:3;1:1^0r;", "1:3;1:1^0;", "1:3;1:1^0x", "1:31", "1:3,0",
            "1:3^", "11:3", " 1:3", "1 :3", "1: 3", "1:3;1:1r0", "R"};
        int[] want = {0, -1, -2, -2, -3, -3, -3, -4, 1, -5, -5, -5, -5,
            -5, -6, -7, -9, -9, -9, 2, -11,
            -11, -10, 2, -12, -11, -10, -4, -4,
            -5, -2, -1, -2, -3, -9, -1};
        for (int k = 0; k < texts.length; k++) {
            AllAboveIt x = new AllAboveIt();
            D.due("4 piles of '" + texts[k] + "'", Due.piles(x, texts[k]), want[k]);
            D.due("4 THINGS of '" + texts[k] + "'", x.count(0), Math.max(0, want[k]));
            D.due("4 signs left of '" + texts[k] + "'", x.count(7), 0);
        }
    }

    private static void numbers() {
        AllAboveIt x = Due.piled("1:1;1:1;1:1;1:1;1:1;1:1;1:1;1:1;1:1;1:1;1:1");
        String[] texts = {"1:1^11", "1:1^99", "1:1^100", "1:1^1,0", "1:1^1,1", "1:1^01,02,033", "1:1^10,9",
            "1:1^10,09", "1:1^10,11", "1:1^2,13", "1:1^123", "1:1^0,00", "1:1^,", "1:1^9,10,1", "1:1^111",
            "1:1^1a", "1:1^12a", "1:1^0,1,2,3,4,5,6,7,8,9,10;1:1^11;1:1^012"};
        int[] want = {-6, -6, -7, -7, -7, -13, -8,
            -9, -9, -8, -6, -8, -5, -10, -6,
            -6, -6, -41};
        for (int k = 0; k < texts.length; k++) {
            D.due("4 piles of '" + texts[k] + "' behind 11", Due.piles(x, texts[k]), want[k]);
            D.due("4 THINGS stay", x.count(0), 11);
        }
        D.due("4 numbers with a 0 ahead", Due.piles(x, "1:1^00,03,10;1:1^11"), 2);
        D.due("4 what it LIES ON", x.thing(11, 2), 1 | 8 | 1024);
        D.due("4 what it LIES ON", x.thing(12, 2), 2048);
    }

    private static void noRoom() {
        AllAboveIt x = Due.piled("1:1;1:1;1:1;1:1;1:1;1:1;1:1;1:1;1:1;1:1;1:1;1:1");
        D.due("4 a 15th", Due.piles(x, "1:1;1:1;1:1"), -9);
        D.due("4 behind a 14th ;", Due.piles(x, "1:1;1:1;"), -9);
        D.due("4 a third r", Due.piles(x, "1:1r;1:1r;1:1r"), -11);
        D.due("4 the 13th and 14th", Due.piles(x, "1:1r;1:1r"), 2);
        D.due("4 a 15th", Due.piles(x, "1"), -1);
        D.due("4 none", Due.piles(x, ""), 0);
        AllAboveIt y = Due.piled("1:1r");
        D.due("4 two more r", Due.piles(y, "1:1r;1:1^0,1r"), -13);
        D.due("4 one more r", Due.piles(y, "1:1r;1:1^0,1"), 2);
        D.due("4 a third r at once", Due.piles(y, "1:1r"), -4);
    }

    private static String many(String part, int times) {
        StringBuilder all = new StringBuilder();
        for (int k = 0; k < times; k++) {
            all.append(part);
        }
        return all.toString();
    }

    private static void longTexts() {
        // twelve LINES of 4 signs, then numbers up to sign 75
        String start = many("1:1;", 12);
        String full = start + "1:1^0,1,2,3,4,5,6,7,8,9,10,r";
        D.due("76 signs, the last wrong", Due.piles(new AllAboveIt(), full), -76);
        full = start + "1:1^0,1,2,3,4,5,6,7,8,9,10,1";
        D.due("76 signs, its last number not rising", Due.piles(new AllAboveIt(), full), -76);
        D.due("77 signs, that number could go on", Due.piles(new AllAboveIt(), full + "1"), -76);
        full = start + "1:1^0,1,2,3,4,5,6,7,8,9,10r;";
        D.due("76 signs that end too early", Due.piles(new AllAboveIt(), full), -77);
        D.due("77 signs, the first 76 could go on", Due.piles(new AllAboveIt(), full + "1"), -77);
        full = start + "1:1^00,1,2,3,4,5,6,7,8,9,10r";
        D.due("76 signs", Due.piles(new AllAboveIt(), full), 13);
        D.due("77 signs, the first 76 could end", Due.piles(new AllAboveIt(), full + ";"), -77);
        D.due("80 signs, wrong behind the 76th", Due.piles(new AllAboveIt(), full + "zzzz"), -77);
        D.due("80 signs, wrong at the start", Due.piles(new AllAboveIt(), "z" + full + "zzz"), -1);
        // a number cut by the end of the first 76
        full = start + "1:1^00,01,2,3,4,5,6,7,8,9,10";
        D.due("76 signs, the last a second digit", Due.piles(new AllAboveIt(), full), 13);
        full = start + "1:1^00,01,02,3,4,5,6,7,8,9,1";
        D.due("77 signs, of the last number one digit", Due.piles(new AllAboveIt(), full + "0"), -76);
        full = start + "1:1^00,01,02,03,044,5,6,7,8,";
        D.due("a third digit ahead of the 76th", Due.piles(new AllAboveIt(), full + "9"), -67);
        full = start + "1:1^00,01,02,03,04,05,6,7,8,";
        D.due("77 signs, the last a number's first", Due.piles(new AllAboveIt(), full + "9"), -77);
        full = start + "1:1^00,01,02,03,04,05,06,7,9";
        D.due("77 signs, a number could go on to one too great", Due.piles(new AllAboveIt(), full + "9"), -77);
        full = start + "1:1;1:1;";
        D.due("the 15th WORTH", Due.piles(new AllAboveIt(), full + "1:1;"), -57);
    }

    private static void refusedReadings() {
        AllAboveIt x = Due.piled("1:3r;2:3^0");
        x.move(0);
        x.move(14);
        x.keep(1);
        x.taken();
        D.due("4 refused", Due.piles(x, "1:3;1:3r;1:3r"), -13);
        D.due("4 refused: THINGS", x.count(0), 2);
        D.due("4 refused: THERE", x.count(1), 1);
        D.due("4 refused: MOVES", x.count(2), 2);
        D.due("4 refused: put back", x.count(4), 1);
        D.due("4 refused: the ROW", x.count(6), 2);
        D.due("4 refused: THE TEXT", x.count(7), 0);
        D.due("4 refused: kept", x.again(1), true);
        D.due("4 refused: r has room", Due.piles(x, "1:3r"), 1);
    }

    private static void things() {
        AllAboveIt x = Due.piled("5:1;6:2^0;7:4^0r;8:7^1,2;9:3");
        int[][] want = {{5, 1, 0, 14, 0, 1}, {6, 2, 1, 8, 0, 1}, {7, 4, 1, 8, 1, 1}, {8, 7, 6, 0, 0, 1},
            {9, 3, 0, 0, 0, 1}};
        for (int i = 0; i < 5; i++) {
            for (int what = 0; what < 6; what++) {
                D.due("5 thing(" + i + ", " + what + ")", x.thing(i, what), want[i][what]);
            }
        }
        D.due("5 thing(5, 0)", Due.thingThrows(x, 5, 0), true);
        D.due("5 thing(-1, 0)", Due.thingThrows(x, -1, 0), true);
        D.due("5 thing(14, 0)", Due.thingThrows(x, 14, 0), true);
        D.due("5 thing(0, 6)", Due.thingThrows(x, 0, 6), true);
        D.due("5 thing(0, -1)", Due.thingThrows(x, 0, -1), true);
        x.move(0);
        for (int i = 0; i < 5; i++) {
            D.due("5 thing(" + i + ", 5) when 0 was taken", x.thing(i, 5), i == 4 ? 1 : 0);
            D.due("5 ABOVE stays", x.thing(i, 3), want[i][3]);
        }
        D.due("5 a THING more on 3", Due.piles(x, "0:1^3,4"), 1);
        D.due("5 ABOVE 0", x.thing(0, 3), 46);
        D.due("5 ABOVE 1", x.thing(1, 3), 40);
        D.due("5 ABOVE 4", x.thing(4, 3), 32);
    }

    private static void byEnd() {
        AllAboveIt x = new AllAboveIt();
        D.due("6 ends(-1)", x.ends(-1), -1);
        D.due("6 ends(2)", x.ends(2), -1);
        D.due("6 ends(0)", x.ends(0), 0);
        D.due("6 ends(1)", x.ends(1), 0);
        D.due("6 ends(3)", x.ends(3), -1);
        D.due("6 count(5)", x.count(5), 1);
        D.due("6 ends(1)", x.ends(1), 1);
        D.due("6 ends(0)", x.ends(0), 1);
        D.due("6 count(5)", x.count(5), 0);
    }

    private static void worthsAre(String call, AllAboveIt x, int... want) {
        for (int i = 0; i < want.length; i++) {
            D.due("7 " + call + ": WORTH " + i, x.thing(i, 0), want[i]);
        }
    }

    private static void sheets() {
        AllAboveIt x = Due.piled("1:1;2:1;3:1;4:1");
        D.due("7 ints", x.sheet(2, 4, 3, 2), 3 + 5 + 7 + 9);
        worthsAre("ints", x, 3, 5, 7, 9);
        D.due("7 put to 0 .. 9", x.sheet(2, 4, 12, -5), 9 + 7 + 2 + 0);
        worthsAre("put to", x, 9, 7, 2, 0);
        D.due("7 fewer", x.sheet(2, 2, 1, 1), 3);
        worthsAre("fewer", x, 1, 2, 0, 0);
        D.due("7 more than THINGS", x.sheet(2, 14, 1, 1), 10);
        worthsAre("more", x, 1, 2, 3, 4);
        D.due("7 n above 14", x.sheet(2, 15, 1, 1), -1);
        D.due("7 another kind", x.sheet(4, 2, 1, 1), -1);
        D.due("7 another kind", x.sheet(-1, 2, 1, 1), -1);
        D.due("7 another kind, n below 0", x.sheet(4, -1, 1, 1), -1);
        D.due("7 missing, n above 14", x.sheet(3, 15, 1, 1), -1);
        D.due("7 n below 0", x.sheet(0, -1, 5, 1), -2);
        D.due("7 n below 0", x.sheet(1, -7, 5, 1), -2);
        D.due("7 n below 0", x.sheet(2, Integer.MIN_VALUE, 5, 1), -2);
        worthsAre("refused", x, 1, 2, 3, 4);
        D.due("7 bytes", x.sheet(0, 4, 0x105, 0x7F), 5 + 0 + 3 + 0);
        worthsAre("bytes", x, 5, 0, 3, 0);
        D.due("7 shorts", x.sheet(1, 4, 0x10005, 0x7FFF), 5 + 0 + 3 + 0);
        worthsAre("shorts", x, 5, 0, 3, 0);
        D.due("7 shorts are no bytes", x.sheet(1, 3, 0x105, 0x7F), 27);
        D.due("7 ints are no shorts", x.sheet(2, 1, 0x10005, 0), 9);
        D.due("7 ints go round", x.sheet(2, 3, Integer.MAX_VALUE, 1), 9);
        worthsAre("round", x, 9, 0, 0, 0);
        D.due("7 missing", x.sheet(3, 2, 5, 5), -3);
        worthsAre("missing", x, 0, 0, 0, 0);
        x.sheet(2, 4, 1, 1);
        D.due("7 missing, n below 0", x.sheet(3, -5, 5, 5), -3);
        worthsAre("missing", x, 0, 0, 0, 0);
        D.due("7 none", x.sheet(2, 0, 5, 5), 0);
        D.due("7 of no THINGS", new AllAboveIt().sheet(2, 5, 5, 5), 0);
    }
}
