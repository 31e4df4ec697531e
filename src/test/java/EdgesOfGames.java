/** Edges of the Terms that MOVES meet, and of promises 8 to 13. */
final class EdgesOfGames {
    private static final int MIN = Integer.MIN_VALUE;
    private static final int MAX = Integer.MAX_VALUE;
    private static final String FOURTEEN = "1:3;".repeat(13) + "1:3";

    private final Edges e;
    private final Due d;

    EdgesOfGames(Edges e) {
        this.e = e;
        this.d = e.d;
    }

    void test() {
        mayWhom();
        gone();
        putBackAt();
        anyHeirPutsBack();
        cannotMove();
        noSuchMove();
        undoNone();
        beginNone();
        judgeNumbers();
        judgeFirst();
        judgeNothing();
        judgeOthers();
        takenNothing();
        takenTwice();
    }

    // ---- promise 8

    private void mayWhom() {
        e.says(8, "NONE: none such.");
        AllAboveIt x = Due.piled("1:1;1:2;1:4");
        int[] none = {-1, 3, 4, MIN, MAX};
        for (int heir : none) {
            d.due("may(" + heir + ")", x.may(heir), -1);
            d.due("of no THINGS: may(" + heir + ")", new AllAboveIt().may(heir), -1);
        }
        e.says(8, "MOVES (bits) that an HEIR (0 .. 2) could make as it is");
        for (int heir = 0; heir <= 2; heir++) {
            d.due("may(" + heir + ")", x.may(heir), 1 << heir);
            d.due("of no THINGS: may(" + heir + ")", new AllAboveIt().may(heir), 0);
        }
        AllAboveIt full = Due.piled("1:3r;".repeat(2) + "1:3;".repeat(11) + "1:3");
        d.due("fourteen", full.may(0), (1 << 14) - 1);
        full.move(0);
        full.move(1);
        d.due("twelve, and two to put back", full.may(0), (1 << 16) - 4);
        d.due("two to put back", full.may(2), 3 << 14);
        AllAboveIt high = Due.piled("1:3;".repeat(12) + "1:3r;1:3r");
        high.move(12);
        high.move(13);
        d.due("the highest MOVES", high.may(2), 3 << 26);
    }

    // ---- promise 9

    private void gone() {
        e.says(9, "THINGS that are gone by it (bits; 0, if one was put back)");
        AllAboveIt x = Due.piled("1:3;1:3^0;1:3^1;1:3^2r");
        d.due("the highest", x.move(3), 8);
        d.due("put back", x.move(17), 0);
        d.due("THERE", x.count(1), 15);
        d.due("one between: what is THERE alone", x.move(2), 12);
        d.due("the lowest", x.move(0), 3);
        AllAboveIt full = Due.piled("1:3;" + "1:3^0;".repeat(11) + "1:3");
        Due.piles(full, "1:3^0");
        d.due("twelve that lie on it, and itself", full.move(0), (1 << 14) - 1 - (1 << 12));
    }

    private void putBackAt() {
        e.says(0, "one of BACK that is not THERE and was not put back yet, "
            + "and that LIES ON THINGS all of which are THERE");
        AllAboveIt x = Due.piled("1:3;1:3;1:3^0,1r");
        d.due("it is THERE", x.move(16), -2);
        x.move(2);
        d.due("it is not", x.may(1), 3 | 1 << 16);
        x.move(0);
        d.due("one of two is gone", x.may(0), 2);
        d.due("one of two is gone", x.move(16), -2);
        x.undo();
        d.due("both are THERE", x.move(16), 0);
        d.due("it was put back", x.count(4), 4);
        x.move(2);
        d.due("it was put back already", x.move(16), -2);
        d.due("it was put back already", x.may(1), 3);
        d.due("gone, and put back already", x.count(1), 3);
        d.due("gone, and put back already", x.count(4), 4);
        AllAboveIt y = Due.piled("1:3;1:3^0r;1:3^1r");
        y.move(0);
        d.due("what it LIES ON is gone for ever", y.may(1), 0);
        AllAboveIt z = Due.piled("1:3r;1:3^0r");
        z.move(0);
        d.due("the lower one first", z.may(1), 1 << 14);
        z.move(14);
        d.due("then the upper one", z.may(0), 1 | 1 << 15);
    }

    private void anyHeirPutsBack() {
        e.says(0, "(and was put back; any HEIR may do so)");
        AllAboveIt x = Due.piled("1:1r;1:3");
        d.due("HEIR 0 takes it", x.move(0), 1);
        for (int heir = 0; heir <= 2; heir++) {
            d.due("may(" + heir + ")", x.may(heir) >> 14, 1);
        }
        d.due("HEIR 1, which may not take it, puts it back", x.move(14), 0);
        d.due("which it may not take", x.may(1), 2);
    }

    private void cannotMove() {
        e.says(9, "-2: it can't make it");
        AllAboveIt x = Due.piled("1:1;1:2;1:4;1:3r");
        d.due("another one's", x.move(1), -2);
        d.due("the third one's", x.move(2), -2);
        d.due("to put back what is THERE", x.move(17), -2);
        d.due("to put back what is not BACK", x.move(14), -2);
        d.due("MOVES", x.count(2), 0);
        d.due("on turn", x.count(3), 0);
        d.due("its own", x.move(0), 1);
        d.due("what is gone", x.move(0), -2);
        d.due("to put back what is gone and not BACK", x.move(14), -2);
        AllAboveIt full = Due.piled(FOURTEEN);
        d.due("the last of all MOVES", full.move(27), -2);
        d.due("the last to take", full.move(13), 1 << 13);
        d.due("to put it back", full.move(27), -2);
    }

    private void noSuchMove() {
        e.says(9, "NONE: none such.");
        AllAboveIt x = new AllAboveIt();
        int[] never = {-1, 28, 29, MIN, MAX, -14, 1 << 30};
        for (int move : never) {
            d.due("no THINGS: move(" + move + ")", x.move(move), -1);
        }
        d.due("no THINGS: move(0)", x.move(0), -1);
        d.due("no THINGS: move(14)", x.move(14), -1);
        x = Due.piled("1:3;1:3");
        for (int move : never) {
            d.due("move(" + move + ")", x.move(move), -1);
        }
        for (int i = 2; i < 14; i++) {
            d.due("move(" + i + ")", x.move(i), -1);
            d.due("move(" + (14 + i) + ")", x.move(14 + i), -1);
        }
        d.due("MOVES", x.count(2), 0);
        AllAboveIt full = Due.piled(FOURTEEN);
        d.due("of fourteen: move(28)", full.move(28), -1);
        d.due("of fourteen: move(-1)", full.move(-1), -1);
    }

    // ---- promises 10 and 11

    private void undoNone() {
        e.says(10, "Refused: none was made.");
        AllAboveIt x = new AllAboveIt();
        d.due("no THINGS", x.undo(), -1);
        x = Due.piled("1:3;1:3r");
        d.due("no MOVE", x.undo(), -1);
        x.move(7);
        x.move(15);
        d.due("refused MOVES", x.undo(), -1);
        x.move(1);
        x.move(15);
        d.due("two MOVES", x.undo(), 1);
        d.due("one MOVE", x.undo(), 0);
        d.due("none", x.undo(), -1);
        d.due("all are THERE", x.count(1), 3);
        x.move(0);
        x.begin();
        d.due("behind begin()", x.undo(), -1);
        x.move(0);
        x.piles();
        d.due("behind piles()", x.undo(), -1);
        x.keep(0);
        x.move(0);
        x.again(0);
        d.due("behind again()", x.undo(), -1);
    }

    private void beginNone() {
        e.says(11, "All as it was first: how many MOVES were made.");
        AllAboveIt x = new AllAboveIt();
        d.due("no THINGS", x.begin(), 0);
        x = Due.piled("1:3r;1:3");
        d.due("no MOVE", x.begin(), 0);
        x.move(0);
        x.move(14);
        x.move(1);
        d.due("three", x.begin(), 3);
        d.due("THERE", x.count(1), 3);
        d.due("put back", x.count(4), 0);
        d.due("on turn", x.count(3), 0);
        d.due("MOVES", x.count(2), 0);
        d.due("none", x.begin(), 0);
        AllAboveIt full = Due.piled("1:3r;1:3r;" + "1:3;".repeat(11) + "1:3");
        int made = 0;
        for (int i = 13; i >= 0; i--) {
            made += full.move(i) > 0 ? 1 : 0;
        }
        made += full.move(14) == 0 ? 1 : 0;
        made += full.move(15) == 0 ? 1 : 0;
        made += full.move(0) > 0 ? 1 : 0;
        made += full.move(1) > 0 ? 1 : 0;
        d.due("the longest game", full.begin(), 18);
        d.due("the longest game", made, 18);
    }

    // ---- promise 12

    private static int five(int... moves) {
        int word = 0;
        for (int k = 0; k < moves.length; k++) {
            word |= moves[k] << 6 * k;
        }
        return word;
    }

    private void judgeNumbers() {
        e.says(12, "n MOVES (0 .. 15), 6 bits each, from the lowest on, 5 in a, then 5 in b, then 5 in c");
        AllAboveIt x = Due.piled("9:3r;8:3;7:3;6:3;5:3;4:3;3:3;2:3;1:3;0:3;1:3;2:3;3:3;4:3");
        d.due("none", x.judge(0, -1, -1, -1), x, -2, 0, 0);
        int a = five(0, 1, 2, 3, 4);
        int b = five(5, 6, 7, 8, 9);
        int c = five(10, 11, 12, 13, 14);
        int[] worth = {9, 8, 7, 6, 5, 4, 3, 2, 1, 0, 1, 2, 3, 4, 0};
        int[] took = new int[2];
        for (int n = 1; n <= 15; n++) {
            took[(n - 1) % 2] += worth[n - 1];
            d.due("n " + n, x.judge(n, a, b, c), x, -2, took[0], took[1]);
            // bits of MOVES that are not told, and the two highest of each number, do not count
            int wordsOf = n <= 5 ? n : 5;
            int above = wordsOf == 5 ? 3 << 30 : -1 << 6 * wordsOf;
            int second = n <= 5 ? -1 : b | 3 << 30;
            int third = n <= 10 ? -1 : c | 3 << 30;
            d.due("n " + n + " and bits behind", x.judge(n, a | above, second, third), x, -2, took[0], took[1]);
        }
    }

    private void judgeFirst() {
        e.says(12, "-2: all can be made; else the number of the first that can't (0 ..)");
        AllAboveIt x = Due.piled("9:3r;8:3;7:3;6:3;5:3;4:3;3:3;2:3;1:3;0:3;1:3;2:3;3:3;4:3");
        int[] game = {0, 1, 2, 3, 4, 5, 6, 7, 8, 9, 10, 11, 12, 13, 14};
        for (int k = 0; k < 15; k++) {
            int[] moves = game.clone();
            moves[k] = 63;
            d.due("63 at " + k, judge(x, moves), k);
            moves[k] = 28;
            d.due("28 at " + k, judge(x, moves), k);
            moves[k] = k == 0 ? 14 : moves[k - 1];
            d.due("what is gone (or THERE) at " + k, judge(x, moves), k);
        }
        d.due("all", judge(x, game), -2);
        d.due("of no THINGS, none", new AllAboveIt().judge(0, 0, 0, 0), -2);
        d.due("of no THINGS, one", new AllAboveIt().judge(1, 0, 0, 0), 0);
        AllAboveIt y = Due.piled("1:1;1:2;1:4");
        d.due("not HEIR 0's", y.judge(1, five(1), 0, 0), 0);
        d.due("not HEIR 1's", y.judge(2, five(0, 0), 0, 0), 1);
        d.due("neither's", y.judge(3, five(0, 1, 2), 0, 0), 2);
        d.due("no such THING", y.judge(2, five(0, 3), 0, 0), 1);
        e.says(12, "WORTHS that HEIR 0, HEIR 1 took till then");
        d.due("nothing till then", y.judge(1, five(1), 0, 0), y, 0, 0, 0);
        d.due("both till then", y.judge(3, five(0, 1, 2), 0, 0), y, 2, 1, 1);
    }

    private static int judge(AllAboveIt x, int... moves) {
        int[] words = new int[3];
        for (int k = 0; k < 15; k++) {
            words[k / 5] |= moves[k] << 6 * (k % 5);
        }
        return x.judge(15, words[0], words[1], words[2]);
    }

    private void judgeNothing() {
        e.says(12, "from how all was first, HEIR 0 first");
        AllAboveIt x = Due.piled("1:1r;2:2;4:3");
        x.move(0);
        x.move(14);
        x.move(2);
        d.due("behind MOVES", x.judge(2, five(0, 14), 0, 0), x, -2, 1, 0);
        e.says(12, "Nothing changes.");
        d.due("THERE", x.count(1), 3);
        d.due("MOVES", x.count(2), 3);
        d.due("on turn", x.count(3), 1);
        d.due("put back", x.count(4), 1);
        x.judge(3, five(0, 14, 0), 0, 0);
        d.due("what was taken", x.taken(), x, 5, 5, 0);
        d.due("undo()", x.undo(), 2);
    }

    private void judgeOthers() {
        e.says(12, "NONE: others.");
        AllAboveIt x = Due.piled("1:3;1:3");
        x.limits();
        int[] others = {-1, 16, 17, MIN, MAX};
        for (int n : others) {
            d.due("n " + n, x.judge(n, 0, 0, 0), x, -1, -2, 2);
        }
    }

    // ---- promise 13

    private void takenNothing() {
        e.says(13, "WORTHS, as they are now, of what was taken so far");
        AllAboveIt x = new AllAboveIt();
        d.due("no THINGS", x.taken(), x, 0, 0, 0);
        x = Due.piled("5:3;4:3^0;0:3");
        d.due("no MOVE", x.taken(), x, 0, 0, 0);
        x.move(2);
        d.due("of no WORTH", x.taken(), x, 0, 0, 0);
        x.move(0);
        d.due("with all ABOVE it", x.taken(), x, 9, 0, 9);
        x.sheet(2, 3, 1, 1);
        d.due("as they are now", x.taken(), x, 6, 3, 3);
        x.undo();
        d.due("undone", x.taken(), x, 3, 3, 0);
        x.move(1);
        x.undo();
        x.undo();
        x.move(1);
        d.due("others made instead", x.taken(), x, 2, 2, 0);
    }

    private void takenTwice() {
        e.says(13, "(of what was put back, too)");
        AllAboveIt x = Due.piled("5:3r;9:3r");
        x.move(0);
        x.move(14);
        d.due("put back", x.taken(), x, 5, 5, 0);
        x.move(0);
        d.due("taken again", x.taken(), x, 10, 10, 0);
        x.move(1);
        x.move(15);
        x.move(1);
        d.due("the other one twice", x.taken(), x, 28, 10, 18);
    }
}
