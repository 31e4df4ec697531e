/** Edges of VALUE and of promises 22 to 29. */
final class EdgesOfHeaps {
    private static final int MIN = Integer.MIN_VALUE;
    private static final int MAX = Integer.MAX_VALUE;
    private static final String FOURTEEN = "1:3;".repeat(13) + "1:3";

    private final Edges e;
    private final Due d;

    EdgesOfHeaps(Edges e) {
        this.e = e;
        this.d = e.d;
    }

    void test() {
        leastNumber();
        valuesLed();
        aloneNone();
        heapNone();
        heapsWithout();
        makeOthers();
        joinedNothing();
        joinedNotSo();
        joinedWithout();
        alikeNot();
        alikeTooMany();
        alikeNone();
        wallWithout();
        wallFirst();
        wallOthers();
    }

    private static AllAboveIt tower() {
        AllAboveIt x = Due.piled("1:3;1:3^0;1:3^1;1:3^2;1:3^3;1:3^4;1:3^5;1:3^6;1:3^7;1:3^8;1:3^9");
        Due.piles(x, "1:3^10;1:3^11;1:3^12");
        return x;
    }

    // ---- promise 22

    private void leastNumber() {
        e.says(0, "the least number 0 .. that is no VALUE of a STATE to which a MOVE leads");
        AllAboveIt x = new AllAboveIt();
        d.due("no THINGS", x.value(), x, 0, 0);
        x = Due.piled("1:4;1:4^0;1:4");
        // towers of 2 and 1: MOVES lead to 1, 0 and 2
        d.due("0, 1 and 2", x.value(), x, 3, 7);
        x = Due.piled("1:4;1:4");
        d.due("1 alone", x.value(), x, 0, 2);
        x = Due.piled("1:4r");
        d.due("BACK", x.value(), x, 1, 1);
    }

    private void valuesLed() {
        e.says(22, "VALUES (bits 0 .. 31) to which its MOVES lead");
        AllAboveIt x = tower();
        d.due("a tower of fourteen", x.value(), x, 14, (1 << 14) - 1);
        x = Due.piled(FOURTEEN);
        d.due("fourteen on none", x.value(), x, 0, 2);
        x = Due.piled("1:3;1:3^0;1:3^1;1:3^2;1:3^3;1:3^4;1:3^5;1:3;1:3^7;1:3^8;1:3^9;1:3^10");
        Due.piles(x, "1:3^11;1:3^12");
        // towers of 7 and 7: 0 .. 6 joined with 7
        d.due("two towers of seven", x.value(), x, 0, 0xFE);
    }

    // ---- promise 23

    private void aloneNone() {
        e.says(23, "NONE: bits of none such.");
        AllAboveIt x = new AllAboveIt();
        d.due("no THINGS: alone(1)", x.alone(1), -1);
        d.due("no THINGS: alone(0)", x.alone(0), 0);
        x = Due.piled("1:3;1:3");
        int[] none = {4, 5, 7, 8, 1 << 13, 1 << 14, 1 << 31, -1, -4, MAX};
        for (int things : none) {
            d.due("alone(" + things + ")", x.alone(things), -1);
        }
        d.due("alone(3)", x.alone(3), 0);
        AllAboveIt full = tower();
        d.due("all fourteen", full.alone((1 << 14) - 1), 14);
        d.due("a fifteenth", full.alone(1 << 14), -1);
        d.due("a fifteenth, too", full.alone((1 << 15) - 1), -1);
        e.says(23, "and nothing could be put back");
        // if 0 could be put back below 2, it would be worth 2 again, and both so 3
        AllAboveIt y = Due.piled("1:3r;1:3;1:3^0,1");
        d.due("without one of BACK below", y.alone(6), 2);
        AllAboveIt z = Due.piled("1:3r");
        d.due("none of BACK", z.alone(0), 0);
    }

    // ---- promises 24 and 25

    private void heapNone() {
        e.says(24, "-2: it is not THERE; NONE: none such.");
        AllAboveIt x = new AllAboveIt();
        d.due("no THINGS: heap(0)", x.heap(0), -1);
        x = Due.piled("1:3;1:3^0");
        int[] none = {-1, 2, 13, 14, 31, 32, MIN, MAX};
        for (int i : none) {
            d.due("heap(" + i + ")", x.heap(i), -1);
        }
        d.due("heap(1)", x.heap(1), 3);
        x.move(0);
        d.due("heap(0)", x.heap(0), -2);
        d.due("heap(1)", x.heap(1), -2);
        d.due("heap(2)", x.heap(2), -1);
        e.says(24, "(bits of THINGS that are THERE and hang together with it by such)");
        d.due("a tower of fourteen", tower().heap(13), (1 << 14) - 1);
        AllAboveIt y = Due.piled("1:3;1:3;1:3^0,1;1:3");
        d.due("by one on both", y.heap(0), 7);
        d.due("alone", y.heap(3), 8);
        y.move(2);
        d.due("that one is gone", y.heap(0), 1);
    }

    private void heapsWithout() {
        e.says(25, "the one with the least THING first (none without)");
        AllAboveIt x = new AllAboveIt();
        x.taken();
        d.due("no THINGS: a ROW of none", x.heaps(), x, 0);
        x = Due.piled("1:3;1:3^0");
        x.move(0);
        x.taken();
        d.due("nothing THERE: a ROW of none", x.heaps(), x, 0);
        x = Due.piled("1:3;1:3;1:3^1;1:3^0;1:3^3;1:3");
        d.due("by their least THINGS", x.heaps(), x, 3, 3, 2, 1);
        x = Due.piled(FOURTEEN);
        d.due("fourteen", x.heaps(), x, 14, 1, 1, 1, 1, 1, 1, 1, 1, 1, 1, 1, 1, 1, 1);
        x = tower();
        d.due("one", x.heaps(), x, 1, 14);
    }

    // ---- promise 26

    private void makeOthers() {
        e.says(26, "-2: none; NONE: others.");
        AllAboveIt x = tower();
        int[] others = {-1, 32, 33, MIN, MAX};
        for (int v : others) {
            d.due("make(" + v + ")", x.make(v), -1);
        }
        for (int v = 0; v <= 31; v++) {
            d.due("make(" + v + ")", x.make(v), v < 14 ? v : -2);
        }
        AllAboveIt y = new AllAboveIt();
        d.due("no THINGS: make(0)", y.make(0), -2);
        d.due("no THINGS: make(32)", y.make(32), -1);
        e.says(26, "The first MOVE by which VALUE becomes v (0 .. 31)");
        AllAboveIt z = Due.piled("1:3;1:3;1:3;1:3r");
        d.due("of four the first", z.make(1), 0);
        z.move(3);
        z.move(2);
        z.move(1);
        z.move(0);
        d.due("to put back", z.make(1), 17);
        AllAboveIt w = Due.piled("1:3;1:3;1:3^1");
        w.move(0);
        d.due("by what is gone nothing becomes what it is", w.make(2), -2);
        d.due("by what is THERE", w.make(0), 1);
    }

    // ---- promise 27

    private void joinedNothing() {
        e.says(27, "0, if nothing is THERE (asked first)");
        d.due("no THINGS", new AllAboveIt().joined(), 0);
        AllAboveIt x = Due.piled("1:3r");
        d.due("one of BACK", x.joined(), -2);
        x.move(0);
        d.due("BACK, and nothing is THERE", x.joined(), 0);
        x.move(14);
        d.due("put back", x.joined(), -2);
    }

    private void joinedNotSo() {
        e.says(27, "-2: not so.");
        AllAboveIt x = Due.piled("1:3;1:3;1:3^0,1");
        d.due("one on two", x.joined(), -2);
        x.move(2);
        d.due("it is gone", x.joined(), 0);
        x.undo();
        x.move(0);
        d.due("it is gone with one of them", x.joined(), 1);
        AllAboveIt y = Due.piled("1:3;1:3^0;1:3^0,1;1:3;1:3^3");
        d.due("on the lower and the upper one", y.joined(), -2);
        y.move(1);
        d.due("gone", y.joined(), 1 ^ 2);
        AllAboveIt z = Due.piled("1:3;1:3r");
        z.move(1);
        d.due("BACK and not THERE", z.joined(), -2);
    }

    private void joinedWithout() {
        e.says(27, "if each THING THERE LIES ON one other that is THERE at most, nothing is BACK");
        d.due("each on one", Due.piled("1:3;1:3^0;1:3^0;1:3^2").joined(), 4);
        d.due("one on two", Due.piled("1:3;1:3;1:3^0,1;1:3").joined(), -2);
        d.due("BACK", Due.piled("1:3;1:3^0;1:3^0;1:3^2r").joined(), -2);
        e.says(27, "(bits that an odd number of them have; 0 without)");
        d.due("one", Due.piled("1:3").joined(), 1);
        d.due("two", Due.piled("1:3;1:3").joined(), 0);
        d.due("two on one", Due.piled("1:3;1:3^0;1:3^0").joined(), 1);
        d.due("three on one", Due.piled("1:3;1:3^0;1:3^0;1:3^0").joined(), 2);
        d.due("a tower of fourteen", tower().joined(), 14);
        d.due("fourteen on none", Due.piled(FOURTEEN).joined(), 0);
    }

    // ---- promise 28

    private void alikeNot() {
        e.says(28, "1, if THINGS of the one can be paired with those of the other so that what LIES ON what is "
            + "the same (HEIRS, WORTHS do not count); 0.");
        AllAboveIt x = Due.piled("1:1;9:2;5:4^0;6:7^1;1:3;1:3");
        d.due("towers of two", x.alike(0, 1), 1);
        d.due("one and one", x.alike(4, 5), 1);
        d.due("with itself", x.alike(4, 4), 1);
        d.due("two and one", x.alike(3, 4), 0);
        AllAboveIt y = Due.piled("1:3;1:3^0;1:3^0;1:3;1:3;1:3^3,4");
        d.due("two on one, one on two", y.alike(0, 3), 0);
        AllAboveIt w = Due.piled("1:3;1:3^0;1:3^0;1:3;1:3^3;1:3^3,4");
        d.due("two on one, one of which lies on the other, too", w.alike(0, 3), 0);
        d.due("the other way", w.alike(5, 2), 0);
        AllAboveIt z = Due.piled("1:3;1:3^0;1:3^0,1;1:3;1:3^3;1:3^4");
        d.due("on both, on the upper one alone", z.alike(0, 3), 0);
        AllAboveIt b = Due.piled("1:3r;1:3");
        d.due("BACK does not count", b.alike(0, 1), 1);
    }

    private void alikeTooMany() {
        e.says(28, "-3: one HEAP has more than 6");
        AllAboveIt x = Due.piled("1:3;1:3^0;1:3^0;1:3^0;1:3^0;1:3^0;1:3;1:3^6;1:3^6;1:3^6;1:3^6;1:3^6");
        d.due("six and six", x.alike(5, 7), 1);
        Due.piles(x, "1:3^6;1:3");
        d.due("six and seven", x.alike(5, 7), -3);
        d.due("seven and six", x.alike(12, 0), -3);
        d.due("seven with itself", x.alike(6, 6), -3);
        d.due("seven and one", x.alike(6, 13), -3);
        d.due("one and six", x.alike(13, 0), 0);
        x.move(12);
        d.due("six are THERE", x.alike(6, 0), 1);
    }

    private void alikeNone() {
        e.says(28, "-2: one is not THERE;");
        AllAboveIt x = Due.piled("1:3;1:3^0;1:3^0;1:3^0;1:3^0;1:3^0;1:3^0;1:3;1:3");
        x.move(7);
        d.due("the first", x.alike(7, 8), -2);
        d.due("the second", x.alike(8, 7), -2);
        d.due("both", x.alike(7, 7), -2);
        d.due("and a HEAP of seven", x.alike(7, 0), -2);
        e.says(28, "NONE: none such.");
        int[] none = {-1, 9, 14, MIN, MAX};
        for (int i : none) {
            d.due("alike(" + i + ", 8)", x.alike(i, 8), -1);
            d.due("alike(8, " + i + ")", x.alike(8, i), -1);
            d.due("ahead of -2", x.alike(7, i), -1);
            d.due("ahead of -3", x.alike(i, 0), -1);
        }
        d.due("no THINGS", new AllAboveIt().alike(0, 0), -1);
    }

    // ---- promise 29

    private void wallWithout() {
        e.says(29, "1, if whoever is on turn wins (without stones, too), else 0");
        AllAboveIt x = new AllAboveIt();
        d.due("without stones", x.wall(0, 0, 0, 0), x, 1, -1, -1);
        d.due("the last stone", x.wall(1, 0, 0, 0), x, 0, -1, -1);
        d.due("two", x.wall(2, 0, 0, 0), x, 1, 0, 1);
        e.says(29, "(row, place from 0; rows first; NONE, NONE, if none)");
        d.due("a corner of 3 and 2", x.wall(3, 2, 0, 0), x, 0, -1, -1);
        d.due("a column", x.wall(1, 1, 1, 1), x, 1, 1, 0);
        d.due("two and two", x.wall(2, 2, 0, 0), x, 1, 1, 1);
        // a corner with equal arms loses: the other one always makes them equal again
        d.due("equal arms", x.wall(3, 1, 1, 0), x, 0, -1, -1);
        d.due("arms of 4 and 4", x.wall(4, 1, 1, 1), x, 0, -1, -1);
        d.due("arms of 5 and 4: the longer one is cut", x.wall(5, 1, 1, 1), x, 1, 0, 4);
    }

    private void wallFirst() {
        e.says(29, "one takes a stone and all that are not left of it and not in a row ahead of it; "
            + "who takes the last loses");
        AllAboveIt x = new AllAboveIt();
        // by 1, 1 a square becomes a corner with equal arms; were stones ahead taken, too, it would be something else
        d.due("a square of three", x.wall(3, 3, 3, 0), x, 1, 1, 1);
        d.due("a corner with equal arms", x.wall(3, 1, 1, 0), x, 0, -1, -1);
        d.due("the last one", x.wall(1, 0, 0, 0), x, 0, -1, -1);
        e.says(29, "its first stone by which it does");
        d.due("the longest row", x.wall(7, 0, 0, 0), x, 1, 0, 1);
        d.due("a square of four", x.wall(4, 4, 4, 4), x, 1, 1, 1);
        // two rows: 7 and 6 lose, so 7 and 7 win by the last stone of the second
        d.due("7 and 6", x.wall(7, 6, 0, 0), x, 0, -1, -1);
        d.due("7 and 7", x.wall(7, 7, 0, 0), x, 1, 1, 6);
        d.due("7 and 3: the first row is cut to 4", x.wall(7, 3, 0, 0), x, 1, 0, 4);
        d.due("the greatest", x.wall(7, 7, 7, 7), 1);
    }

    private void wallOthers() {
        e.says(29, "(0 .. 7 each, none longer than the one ahead)");
        AllAboveIt x = new AllAboveIt();
        d.due("7, 7, 7, 7", x.wall(7, 7, 7, 7) >= 0, true);
        d.due("7, 0, 0, 0", x.wall(7, 0, 0, 0) >= 0, true);
        e.says(29, "NONE: others.");
        x.wall(2, 0, 0, 0);
        int[][] others = {{8, 0, 0, 0}, {8, 8, 8, 8}, {-1, 0, 0, 0}, {0, -1, 0, 0}, {1, 1, -1, 0}, {1, 1, 1, -1},
            {0, 1, 0, 0}, {2, 3, 1, 1}, {2, 1, 2, 1}, {2, 2, 1, 2}, {MIN, MIN, MIN, MIN}, {MAX, 0, 0, 0}, {7, 8, 0, 0},
            {7, 7, 7, 8}};
        for (int[] r : others) {
            d.due("wall(" + r[0] + ", " + r[1] + ", " + r[2] + ", " + r[3] + ")", x.wall(r[0], r[1], r[2], r[3]), x,
                -1, 0, 1);
        }
    }
}
