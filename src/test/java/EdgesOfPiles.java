/** Edges of the Terms that THE TEXT meets, and of promises 1 to 7. */
final class EdgesOfPiles {
    private static final int MIN = Integer.MIN_VALUE;
    private static final int MAX = Integer.MAX_VALUE;
    /** Twelve LINES, 48 signs: a thirteenth may lie on 0 .. 11 and has 28 signs up to the 76th. */
    private static final String TWELVE = "1:1;".repeat(12);

    private final Edges e;
    private final Due d;

    EdgesOfPiles(Edges e) {
        this.e = e;
        this.d = e.d;
    }

    void test() {
        newObject();
        signsFull();
        signsByBytes();
        endTooFar();
        emptyText();
        allAnew();
        signsThatCannotStand();
        endsTooEarly();
        moreThan76();
        numbersWrong();
        numbersCut();
        noRoomForWorth();
        noRoomForBack();
        mostThings();
        worthsAndHeirs();
        refusedText();
        noSuchThing();
        otherEnds();
        sheetLowestBits();
        sheetPutTo();
        sheetEntries();
        sheetBehind();
        sheetBelow();
        sheetMissing();
        sheetNone();
    }

    private int piles(String text) {
        return Due.piles(new AllAboveIt(), text);
    }

    // ---- promise 1

    private void newObject() {
        e.says(1, "No THINGS; HEIR 0 on turn; END 0.");
        AllAboveIt x = new AllAboveIt();
        for (int what = 0; what < 8; what++) {
            d.due("count(" + what + ")", x.count(what), 0);
        }
        d.due("thing(0, 0)", Due.thingThrows(x, 0, 0), true);
        for (int heir = 0; heir < 3; heir++) {
            d.due("may(" + heir + ")", x.may(heir), 0);
        }
        d.due("HEIR 0 has no MOVE: wins()", x.wins(), x, 1, 0);
        d.due("END was 0", x.ends(0), 0);
    }

    // ---- promise 2

    private void signsFull() {
        e.says(2, "Refused: there would be more than 80.");
        for (int length = 0; length <= 80; length++) {
            AllAboveIt x = new AllAboveIt();
            Due.write(x, "z".repeat(length));
            d.due("sign behind " + length, x.sign(0x31313131), length > 76 ? -1 : length + 4);
            d.due("then", x.count(7), length > 76 ? length : length + 4);
        }
        AllAboveIt x = new AllAboveIt();
        Due.write(x, "1:3;".repeat(13) + "2:3" + "z".repeat(25));
        x.sign(0x7A7A7A7A);
        x.end(55);
        d.due("the signs stay as they were: piles()", x.piles(), 14);
        d.due("the last THING", x.thing(13, 0), 2);
    }

    private void signsByBytes() {
        e.says(2, "of v the highest byte first");
        AllAboveIt x = new AllAboveIt();
        x.sign(0x383A353B);
        x.sign(0x373A365E);
        x.sign(0x30723B36);
        x.sign(0x3A310000);
        x.end(14);
        d.due("'8:5;7:6^0r;6:1'", x.piles(), 3);
        d.due("WORTH 0", x.thing(0, 0), 8);
        d.due("HEIRS 1", x.thing(1, 1), 6);
        d.due("BACK 1", x.thing(1, 4), 1);
        d.due("WORTH 2", x.thing(2, 0), 6);
        // a byte above 127 is a sign like any other, and no sign of a number below 0
        x.begin();
        x.sign(0xB13A3100);
        x.end(3);
        d.due("a first byte of 177", x.piles(), -1);
        x.sign(0x313A31BB);
        d.due("a last byte of 187", x.piles(), -4);
    }

    // ---- promise 3

    private void endTooFar() {
        e.says(3, "THE TEXT has its first n signs alone: true; false if it has not so many, or n is below 0");
        AllAboveIt x = new AllAboveIt();
        d.due("none: end(0)", x.end(0), true);
        d.due("none: end(1)", x.end(1), false);
        d.due("none: end(-1)", x.end(-1), false);
        x.sign(0x313A3331);
        int[] refused = {5, 8, 80, 81, -1, -4, MIN, MAX};
        for (int n : refused) {
            d.due("four: end(" + n + ")", x.end(n), false);
            d.due("four: then", x.count(7), 4);
        }
        for (int n = 4; n >= 0; n--) {
            d.due("end(" + n + ")", x.end(n), true);
            d.due("then", x.count(7), n);
            d.due("no more: end(" + (n + 1) + ")", x.end(n + 1), false);
        }
        Due.write(x, "z".repeat(80));
        d.due("full: end(81)", x.end(81), false);
        d.due("full: end(80)", x.end(80), true);
    }

    // ---- promise 4

    private void emptyText() {
        e.says(4, "(an empty one: none)");
        AllAboveIt x = new AllAboveIt();
        d.due("new: piles()", x.piles(), 0);
        d.due("THINGS", x.count(0), 0);
        x = Due.piled("1:3;1:3^0r");
        x.move(1);
        x.move(15);
        x.move(0);
        d.due("behind MOVES: piles()", x.piles(), 0);
        d.due("THINGS", x.count(0), 2);
        d.due("all are THERE then", x.count(1), 3);
        d.due("nothing was put back", x.count(4), 0);
        d.due("no MOVE made", x.count(2), 0);
        d.due("HEIR 0 is on turn", x.count(3), 0);
        x = Due.piled("1:3;".repeat(13) + "1:3");
        d.due("fourteen: piles()", x.piles(), 0);
    }

    private void allAnew() {
        e.says(4, "all are THERE then, nothing was put back, no MOVE made, HEIR 0 is on turn");
        AllAboveIt x = Due.piled("1:3r;1:3");
        x.move(0);
        x.move(14);
        x.move(1);
        d.due("piles()", Due.piles(x, "1:3^1"), 1);
        d.due("THERE", x.count(1), 7);
        d.due("put back", x.count(4), 0);
        d.due("MOVES", x.count(2), 0);
        d.due("on turn", x.count(3), 0);
        d.due("undo()", x.undo(), -1);
    }

    /** Behind each beginning all 256 signs: those that may stand there, and no other. */
    private void signsThatCannotStand() {
        e.says(4, "-1 - p: the sign at p can't stand there");
        String[] beginnings = {"", "1", "1:", "1:3", "1:3;", "1:3;1:3^", "1:3;1:3^0", "1:3;1:3^0,", "1:3r",
            "1:3;1:3^0r"};
        String[] may = {"0123456789", ":", "1234567", "^r;", "0123456789", "0", "0,r;", "", ";", ";"};
        for (int k = 0; k < beginnings.length; k++) {
            int p = beginnings[k].length();
            for (int sign = 0; sign < 256; sign++) {
                boolean stands = piles(beginnings[k] + (char) sign) != -1 - p;
                d.due("'" + beginnings[k] + "' and sign " + sign, stands, may[k].indexOf(sign) >= 0);
            }
        }
        AllAboveIt x = Due.piled("1:1;".repeat(11) + "1:1");
        for (int sign = 0; sign < 256; sign++) {
            boolean stands = Due.piles(x, "1:1^" + (char) sign + "z") != -5;
            d.due("'1:1^' behind twelve and sign " + sign, stands, "0123456789".indexOf(sign) >= 0);
        }
    }

    private void endsTooEarly() {
        e.says(4, "its end, if it ends too early");
        String[] early = {"1", "1:", "1:3;", "1:3;2", "1:3;2:", "1:3;2:3^", "1:3;2:3^0,", "1:3;2:3^0;", "1:3r;"};
        for (String text : early) {
            AllAboveIt x = new AllAboveIt();
            d.due("'" + text + "'", Due.piles(x, text), -1 - text.length());
            d.due("THINGS", x.count(0), 0);
        }
        String[] whole = {"1:3", "1:3r", "1:3;2:3^0", "1:3;2:3^0r"};
        for (String text : whole) {
            d.due("'" + text + "'", piles(text) > 0, true);
        }
        String full = TWELVE + "1:1^0,1,2,3,4,5,6,7,8,9,10r;";
        d.due("76 signs: " + full.length(), piles(full), -77);
    }

    private void moreThan76() {
        e.says(4, "76, if it has more and the first 76 could go on or end");
        String couldEnd = TWELVE + "1:1^00,1,2,3,4,5,6,7,8,9,10r";
        String couldGoOn = TWELVE + "1:1^0,1,2,3,4,5,6,7,8,9,10r;";
        String[] behind = {";", "1", "z", "1:1", "zzzz"};
        d.due("76", piles(couldEnd), 13);
        for (String more : behind) {
            d.due("could end, then " + more, piles(couldEnd + more), -77);
            d.due("could go on, then " + more, piles(couldGoOn + more), -77);
        }
        d.due("the first sign is wrong, and 77", piles("z" + couldEnd), -1);
        d.due("the 76th is wrong, and 77", piles(couldEnd.substring(0, 75) + ":r"), -76);
        d.due("no room for a WORTH there, and 77", piles("1:1;".repeat(14) + "1".repeat(21)), -57);
        e.says(0, "They are told by a text of at most 76 signs");
        d.due("76", couldEnd.length(), 76);
        d.due("76", piles(couldEnd), 13);
        d.due("77", piles(couldEnd + ";"), -77);
        d.due("80", piles(couldEnd + ";1:1"), -77);
    }

    private void numbersWrong() {
        e.says(4, "a number too great or not rising");
        String[] great = {"1:3^0", "1:3^9", "1:3;1:3^1", "1:3;1:3^0,1", "1:3;1:3^2", "1:3;1:3^1;"};
        int[] at = {4, 4, 8, 10, 8, 8};
        for (int k = 0; k < great.length; k++) {
            d.due("'" + great[k] + "'", piles(great[k]), -1 - at[k]);
        }
        String three = "1:3;1:3;1:3;1:3^";
        d.due("0,1,2", piles(three + "0,1,2"), 4);
        d.due("0,0", piles(three + "0,0"), -1 - 18);
        d.due("1,0", piles(three + "1,0"), -1 - 18);
        d.due("0,2,2", piles(three + "0,2,2"), -1 - 20);
        d.due("0,2,1", piles(three + "0,2,1"), -1 - 20);
        d.due("a new LINE begins anew", piles("1:3;1:3;1:3^0,1;1:3^0"), 4);
        e.says(4, "at its last digit");
        d.due("03", piles(three + "03"), -1 - 17);
        d.due("10", piles(three + "10"), -1 - 17);
        d.due("1,01", piles(three + "1,01"), -1 - 19);
        d.due("99;", piles(three + "99;"), -1 - 17);
        e.says(0, "(each 1 or 2 digits, of a THING ahead, rising)");
        d.due("00,01,02", piles(three + "00,01,02"), 4);
        d.due("a third digit can't stand there", piles(three + "001"), -1 - 18);
        AllAboveIt x = Due.piled("1:1;".repeat(12) + "1:1");
        d.due("12 and a third digit", Due.piles(x, "1:1^120"), -1 - 6);
        d.due("13 is itself", Due.piles(x, "1:1^13"), -1 - 5);
        d.due("12", Due.piles(x, "1:1^9,12"), 1);
        d.due("LIES ON", x.thing(13, 2), 1 << 9 | 1 << 12);
    }

    private void numbersCut() {
        e.says(4, "as far as it stands in the first 76");
        // 1 at the 76th sign: not rising behind 9, whatever stands behind it
        String cut = TWELVE + "1:1^00,01,02,3,4,5,6,7,8,9,1";
        d.due("76", cut.length(), 76);
        d.due("1", piles(cut), -76);
        d.due("1, cut, then 0", piles(cut + "0"), -76);
        // 9 at the 76th sign: as far as it stands it could go on or end, though 99 is too great
        cut = TWELVE + "1:1^00,01,02,03,04,05,06,7,9";
        d.due("9", piles(cut), 13);
        d.due("9, cut, then 9", piles(cut + "9"), -77);
        // both digits stand in the first 76
        cut = TWELVE + "1:1^00,01,2,3,4,5,6,7,8,9,10";
        d.due("10", piles(cut), 13);
        d.due("10, then a third", piles(cut + "1"), -77);
        d.due("12", piles(cut.substring(0, 75) + "2"), -76);
        d.due("12, then more", piles(cut.substring(0, 75) + "2;"), -76);
    }

    private void noRoomForWorth() {
        e.says(4, "the WORTH of a LINE, the r, for which there is no room");
        for (int there = 0; there <= 14; there++) {
            AllAboveIt x = new AllAboveIt();
            if (there > 0) {
                Due.piles(x, "1:1;".repeat(there - 1) + "1:1");
            }
            int room = 14 - there;
            String text = "1:1;".repeat(room) + "1:1";
            d.due(there + " there, one too many", Due.piles(x, text), -1 - 4 * room);
            d.due("THINGS", x.count(0), there);
            if (room > 0) {
                d.due(there + " there, just as many", Due.piles(x, text.substring(4)), room);
            }
            d.due("fourteen", x.count(0), 14);
            d.due("one more", Due.piles(x, "1:1"), -1);
        }
    }

    private void noRoomForBack() {
        e.says(4, "the r, for which there is no room");
        d.due("two", piles("1:1r;1:1r"), 2);
        d.due("a third", piles("1:1r;1:1r;1:1r"), -1 - 13);
        d.due("a third on numbers", piles("1:1r;1:1r;1:1^0,1r"), -1 - 17);
        AllAboveIt x = Due.piled("1:1r");
        d.due("one there, two more", Due.piles(x, "1:1r;1:1r"), -1 - 8);
        d.due("one there, one more", Due.piles(x, "1:1;1:1r"), 2);
        d.due("two there, one more", Due.piles(x, "1:1r"), -1 - 3);
        d.due("two there, one without", Due.piles(x, "1:1"), 1);
        d.due("BACK", x.thing(0, 4) + 2 * x.thing(1, 4) + 4 * x.thing(2, 4) + 8 * x.thing(3, 4), 5);
        e.says(0, "BACK or not (at most 2 are)");
        d.due("none", piles("1:1;1:1"), 2);
        d.due("two", piles("1:1r;1:1r"), 2);
        d.due("three", piles("1:1r;1:1r;1:1r"), -14);
    }

    private void mostThings() {
        e.says(0, "THINGS 0 .. (at most 14)");
        AllAboveIt x = Due.piled("9:7;".repeat(13) + "9:7");
        d.due("THINGS", x.count(0), 14);
        d.due("THERE", x.count(1), (1 << 14) - 1);
        d.due("the last", x.thing(13, 0), 9);
        d.due("a fifteenth", Due.piles(x, "9:7"), -1);
        d.due("THINGS", x.count(0), 14);
    }

    private void worthsAndHeirs() {
        e.says(0, "WORTH 0 .. 9, HEIRS who may take it (bits 1, 2, 4; 1 .. 7)");
        for (int worth = 0; worth <= 9; worth++) {
            for (int heirs = 0; heirs <= 9; heirs++) {
                AllAboveIt x = new AllAboveIt();
                boolean so = heirs >= 1 && heirs <= 7;
                d.due(worth + ":" + heirs, Due.piles(x, worth + ":" + heirs), so ? 1 : -3);
                if (so) {
                    d.due("WORTH", x.thing(0, 0), worth);
                    d.due("HEIRS", x.thing(0, 1), heirs);
                    d.due("HEIR 0", x.may(0), heirs & 1);
                    d.due("HEIR 1", x.may(1), heirs >> 1 & 1);
                    d.due("HEIR 2", x.may(2), heirs >> 2 & 1);
                }
            }
        }
    }

    private void refusedText() {
        e.says(0, "change nothing but THE TEXT, which a call that reads it empties");
        AllAboveIt x = Due.piled("1:3r;2:3^0;3:3");
        x.move(1);
        x.move(0);
        x.move(14);
        x.ends(1);
        x.keep(2);
        x.taken();
        d.due("a text with no room for its last r", Due.piles(x, "1:3;1:3r;1:3r"), -13);
        int[] want = {3, 5, 3, 1, 1, 1, 2, 0};
        for (int what = 0; what < 8; what++) {
            d.due("count(" + what + ")", x.count(what), want[what]);
        }
        d.due("kept", x.again(2), true);
        d.due("the same r has room alone", Due.piles(x, "1:3r"), 1);
    }

    // ---- promise 5

    private void noSuchThing() {
        e.says(5, "NoSuchElementException: none such, another what.");
        AllAboveIt x = new AllAboveIt();
        d.due("no THINGS: thing(0, 0)", Due.thingThrows(x, 0, 0), true);
        x = Due.piled("1:3;1:3");
        int[] none = {-1, 2, 13, 14, MIN, MAX};
        for (int i : none) {
            for (int what = -1; what <= 6; what++) {
                d.due("thing(" + i + ", " + what + ")", Due.thingThrows(x, i, what), true);
            }
        }
        int[] whats = {-1, 6, 7, MIN, MAX};
        for (int what : whats) {
            d.due("thing(1, " + what + ")", Due.thingThrows(x, 1, what), true);
        }
        for (int what = 0; what <= 5; what++) {
            d.due("thing(1, " + what + ")", Due.thingThrows(x, 1, what), false);
        }
        x.move(0);
        d.due("one that is not THERE", Due.thingThrows(x, 0, 5), false);
        AllAboveIt full = Due.piled("1:3;".repeat(13) + "5:3");
        d.due("the fourteenth", full.thing(13, 0), 5);
        d.due("a fifteenth", Due.thingThrows(full, 14, 0), true);
        e.says(5, "3: THINGS ABOVE it (bits), 4: 1 if BACK, 5: 1 if it is THERE");
        AllAboveIt tower = Due.piled("1:3;1:3^0;1:3^1r");
        d.due("ABOVE the lowest", tower.thing(0, 3), 6);
        d.due("ABOVE the highest", tower.thing(2, 3), 0);
        d.due("not BACK", tower.thing(1, 4), 0);
        d.due("none is BACK", Due.piled("1:3;1:3").thing(0, 4), 0);
        d.due("BACK", tower.thing(2, 4), 1);
        tower.move(1);
        d.due("ABOVE, though gone", tower.thing(0, 3), 6);
        d.due("THERE", tower.thing(0, 5), 1);
        d.due("gone with the one below it", tower.thing(2, 5), 0);
    }

    // ---- promise 6

    private void otherEnds() {
        e.says(6, "Refused: others.");
        AllAboveIt x = new AllAboveIt();
        int[] others = {-1, 2, 3, MIN, MAX};
        for (int v : others) {
            d.due("ends(" + v + ")", x.ends(v), -1);
            d.due("END", x.count(5), 0);
        }
        d.due("ends(1)", x.ends(1), 0);
        for (int v : others) {
            d.due("ends(" + v + ")", x.ends(v), -1);
            d.due("END", x.count(5), 1);
        }
        e.says(6, "END becomes v (0, 1): what it was");
        d.due("ends(1)", x.ends(1), 1);
        d.due("ends(0)", x.ends(0), 1);
        d.due("ends(0)", x.ends(0), 0);
    }

    // ---- promise 7

    private void worths(AllAboveIt x, int... want) {
        for (int i = 0; i < want.length; i++) {
            d.due("WORTH " + i, x.thing(i, 0), want[i]);
        }
    }

    private void sheetLowestBits() {
        e.says(7, "of bytes, shorts the lowest bits, with their sign");
        AllAboveIt x = Due.piled("1:3;1:3;1:3");
        d.due("bytes 127, 128, 129", x.sheet(0, 3, 127, 1), 9);
        worths(x, 9, 0, 0);
        d.due("bytes 255, 256, 257", x.sheet(0, 3, 255, 1), 1);
        worths(x, 0, 0, 1);
        d.due("bytes -256, -253, -250", x.sheet(0, 3, -256, 3), 9);
        worths(x, 0, 3, 6);
        d.due("shorts 32767, 32768, 32769", x.sheet(1, 3, 32767, 1), 9);
        worths(x, 9, 0, 0);
        d.due("shorts 65535, 65536, 65537", x.sheet(1, 3, 65535, 1), 1);
        worths(x, 0, 0, 1);
        d.due("shorts 128, 255, 382", x.sheet(1, 3, 128, 127), 27);
        d.due("ints 65537, 65538, 65539", x.sheet(2, 3, 65537, 1), 27);
        d.due("ints that go round", x.sheet(2, 3, MAX, 1), 9);
        worths(x, 9, 0, 0);
        d.due("ints that go round to 5", x.sheet(2, 3, MIN, MIN), 0);
        d.due("ints by a step that goes round", x.sheet(2, 3, 5, MIN), 10);
        worths(x, 5, 0, 5);
    }

    private void sheetPutTo() {
        e.says(7, "put to 0 .. 9");
        AllAboveIt x = Due.piled("1:3;1:3;1:3");
        for (int kind = 0; kind <= 2; kind++) {
            d.due("8, 9, 10 of kind " + kind, x.sheet(kind, 3, 8, 1), 26);
            worths(x, 8, 9, 9);
            d.due("-1, 0, 1 of kind " + kind, x.sheet(kind, 3, -1, 1), 1);
            worths(x, 0, 0, 1);
        }
        d.due("the greatest int", x.sheet(2, 1, MAX, 0), 9);
        d.due("the least int", x.sheet(2, 1, MIN, 0), 0);
    }

    private void sheetEntries() {
        e.says(7, "of n entries f, f + step, ..");
        AllAboveIt x = Due.piled("1:3;1:3;1:3");
        d.due("a step of 0", x.sheet(2, 3, 4, 0), 12);
        d.due("a step below 0", x.sheet(2, 3, 4, -2), 6);
        d.due("more entries than THINGS", x.sheet(2, 14, 1, 1), 6);
        AllAboveIt full = Due.piled("1:3;".repeat(13) + "1:3");
        d.due("fourteen of fourteen", full.sheet(2, 14, 9, 0), 126);
        d.due("of no THINGS", new AllAboveIt().sheet(2, 14, 9, 0), 0);
    }

    private void sheetBehind() {
        e.says(7, "those behind it are worth 0: the sum of all.");
        for (int kind = 0; kind <= 2; kind++) {
            for (int n = 0; n <= 5; n++) {
                AllAboveIt x = Due.piled("9:3;9:3;9:3;9:3");
                d.due("n " + n + " of kind " + kind, x.sheet(kind, n, 2, 1), n == 0 ? 0 : n == 1 ? 2 : n == 2 ? 5
                    : n == 3 ? 9 : 14);
                worths(x, n > 0 ? 2 : 0, n > 1 ? 3 : 0, n > 2 ? 4 : 0, n > 3 ? 5 : 0);
            }
        }
    }

    private void sheetBelow() {
        e.says(7, "-2: n below 0 (of kinds 0 .. 2; nothing changes)");
        AllAboveIt x = Due.piled("1:3;2:3");
        for (int kind = 0; kind <= 2; kind++) {
            d.due("n -1", x.sheet(kind, -1, 5, 0), -2);
            d.due("n MIN", x.sheet(kind, MIN, 5, 0), -2);
            worths(x, 1, 2);
        }
        d.due("best() by the old ones", x.best(), x, 1, 1);
    }

    private void sheetMissing() {
        e.says(7, "-3: missing (all 0)");
        int[] many = {MIN, -1, 0, 1, 14};
        for (int n : many) {
            AllAboveIt x = Due.piled("1:3;2:3");
            d.due("n " + n, x.sheet(3, n, 5, 1), -3);
            worths(x, 0, 0);
        }
        d.due("of no THINGS", new AllAboveIt().sheet(3, 0, 0, 0), -3);
    }

    private void sheetNone() {
        e.says(7, "NONE: another kind, n above 14 (these first).");
        AllAboveIt x = Due.piled("1:3;2:3");
        int[] kinds = {-1, 4, MIN, MAX};
        for (int kind : kinds) {
            d.due("kind " + kind, x.sheet(kind, 2, 5, 1), -1);
            d.due("kind " + kind + ", n below 0", x.sheet(kind, -1, 5, 1), -1);
        }
        for (int kind = 0; kind <= 3; kind++) {
            d.due("n 15 of kind " + kind, x.sheet(kind, 15, 5, 1), -1);
            d.due("n MAX of kind " + kind, x.sheet(kind, MAX, 5, 1), -1);
        }
        worths(x, 1, 2);
    }
}
