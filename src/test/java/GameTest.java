/** Promises 8 to 13: MOVES, undone and judged, and what was taken. */
public final class GameTest {
    private static final Due D = new Due();

    public static void main(String[] args) {
        whoMay();
        moves();
        puttingBack();
        undoing();
        judging();
        taken();
        D.close("GameTest");
    }

    private static AllAboveIt mixed() {
        return Due.piled("1:1;2:2^0;3:4^1r;4:7^0,2;5:3");
    }

    private static AllAboveIt withBack() {
        return Due.piled("2:3;3:3^0r;4:3^1;5:3^0r");
    }

    private static void whoMay() {
        AllAboveIt x = mixed();
        D.due("8 may(0)", x.may(0), 25);
        D.due("8 may(1)", x.may(1), 26);
        D.due("8 may(2)", x.may(2), 12);
        D.due("8 may(3)", x.may(3), -1);
        D.due("8 may(-1)", x.may(-1), -1);
        x.move(3);
        D.due("8 whoever is on turn: may(0)", x.may(0), 17);
        D.due("8 whoever is on turn: may(2)", x.may(2), 4);
    }

    private static void moves() {
        AllAboveIt x = mixed();
        D.due("9 not its own", x.move(1), -2);
        int[] noSuch = {-1, 5, 13, 19, 27, 28, Integer.MAX_VALUE, Integer.MIN_VALUE};
        for (int move : noSuch) {
            D.due("9 move(" + move + ")", x.move(move), -1);
        }
        D.due("9 put back what is THERE", x.move(16), -2);
        D.due("9 put back what is not BACK", x.move(14), -2);
        D.due("9 refused: MOVES", x.count(2), 0);
        D.due("9 HEIR 0 takes 4", x.move(4), 16);
        D.due("9 HEIR 1 is on turn", x.count(3), 1);
        D.due("9 it can't take 0", x.move(0), -2);
        D.due("9 nor 4 again", x.move(4), -2);
        D.due("9 it takes 1 and all ABOVE it", x.move(1), 14);
        D.due("9 THERE", x.count(1), 1);
        D.due("9 2 LIES ON what is gone", x.move(16), -2);
        D.due("9 HEIR 0 takes 0", x.move(0), 1);
        D.due("9 nothing is left", x.may(1), 0);
        AllAboveIt y = Due.piled("1:3;1:3^0;1:3^1;1:3^2;1:3^3");
        y.move(3);
        D.due("9 just what is still THERE", y.move(1), 6);
    }

    private static void puttingBack() {
        AllAboveIt x = withBack();
        D.due("9 1 and 2", x.move(1), 6);
        D.due("8 HEIR 1 may put 1 back", x.may(1), 1 | 8 | 1 << 15);
        D.due("8 so may HEIR 2", x.may(2), 1 << 15);
        D.due("9 1 is put back", x.move(15), 0);
        D.due("9 2 is not", x.count(1), 11);
        D.due("9 put back", x.count(4), 2);
        D.due("9 1 again", x.move(1), 2);
        D.due("8 just once", x.may(1), 9);
        D.due("9 just once", x.move(15), -2);
        D.due("9 0 and 3", x.move(0), 9);
        D.due("8 3 LIES ON what is gone", x.may(0), 0);
        AllAboveIt y = Due.piled("1:3r;1:3^0r");
        D.due("9 both", y.move(0), 3);
        D.due("8 0 alone may be put back", y.may(1), 1 << 14);
        y.move(14);
        D.due("8 then 1 on it", y.may(0), 1 | 1 << 15);
        y.move(15);
        D.due("9 both put back", y.count(4), 3);
        y.move(0);
        D.due("8 neither again", y.may(0), 0);
        D.due("9 MOVES", y.count(2), 4);
    }

    private static void undoing() {
        AllAboveIt x = withBack();
        D.due("10 undo() of none", x.undo(), -1);
        x.move(1);
        x.move(15);
        x.move(0);
        D.due("10 undo()", x.undo(), 2);
        D.due("10 THERE", x.count(1), 11);
        D.due("10 put back stays", x.count(4), 2);
        D.due("10 HEIR 0", x.count(3), 0);
        D.due("10 undo()", x.undo(), 1);
        D.due("10 not put back", x.count(4), 0);
        D.due("10 it may be again", x.may(1), 1 | 8 | 1 << 15);
        D.due("10 undo()", x.undo(), 0);
        D.due("10 all", x.count(1), 15);
        D.due("10 undo()", x.undo(), -1);
        x.move(0);
        x.move(14);
        D.due("11 refused MOVES do not count", x.begin(), 1);
        D.due("11 all", x.count(1), 15);
        D.due("11 none put back", x.count(4), 0);
        D.due("11 HEIR 0", x.count(3), 0);
        D.due("11 begin()", x.begin(), 0);
        D.due("11 nothing to undo", x.undo(), -1);
        x.ends(1);
        x.move(1);
        x.move(15);
        D.due("11 begin()", x.begin(), 2);
        D.due("11 END stays", x.count(5), 1);
        // the longest game: fourteen taken, two of them put back and taken again
        AllAboveIt y = Due.piled("1:3;1:3;1:3;1:3;1:3;1:3;1:3;1:3;1:3;1:3;1:3;1:3;1:3r;1:3r");
        for (int i = 0; i < 14; i++) {
            D.due("9 the longest", y.move(i), 1 << i);
        }
        D.due("9 the longest", y.move(26), 0);
        D.due("9 the longest", y.move(27), 0);
        D.due("9 the longest", y.move(12), 1 << 12);
        D.due("9 the longest", y.move(13), 1 << 13);
        D.due("9 its end", y.may(0), 0);
        D.due("13 all of it", y.taken(), y, 16, 8, 8);
        for (int left = 17; left >= 0; left--) {
            D.due("10 the longest", y.undo(), left);
        }
    }

    private static int five(int... moves) {
        int word = 0;
        for (int k = 0; k < moves.length; k++) {
            word |= moves[k] << 6 * k;
        }
        return word;
    }

    private static void judging() {
        AllAboveIt x = withBack();
        D.due("12 none", x.judge(0, -1, -1, -1), x, -2, 0, 0);
        int game = five(1, 15, 1, 0, 17);
        D.due("12 one", x.judge(1, game, 0, 0), x, -2, 7, 0);
        D.due("12 four", x.judge(4, game, 0, 0), x, -2, 10, 7);
        D.due("12 the fifth can't", x.judge(5, game, 0, 0), x, 4, 10, 7);
        D.due("12 of fifteen", x.judge(15, game, 0, 0), x, 4, 10, 7);
        D.due("12 the first can't", x.judge(3, five(15, 1), 0, 0), x, 0, 0, 0);
        D.due("12 bits behind the fifth", x.judge(1, 1 | 3 << 30, 0, 0), x, -2, 7, 0);
        D.due("12 no such THING", x.judge(2, five(1, 4), 0, 0), x, 1, 7, 0);
        D.due("12 no such MOVE", x.judge(2, five(1, 63), 0, 0), x, 1, 7, 0);
        D.due("12 n 16", x.judge(16, game, 0, 0), x, -1, 7, 0);
        D.due("12 n -1", x.judge(-1, game, 0, 0), x, -1, 7, 0);
        x.move(0);
        x.judge(2, game, 0, 0);
        D.due("12 nothing changes", x.count(2), 1);
        D.due("12 nothing changes", x.count(1), 0);
        AllAboveIt y = Due.piled("9:3;8:3;7:3;6:3;5:3;4:3;3:3;2:3;1:3;0:3;9:3r;8:3;7:3;6:1");
        int a = five(0, 1, 2, 3, 4);
        int b = five(5, 6, 7, 8, 9);
        D.due("12 over three numbers", y.judge(15, a, b, five(10, 24, 11, 12, 10)), y, -2,
            9 + 7 + 5 + 3 + 1 + 9 + 8 + 9, 8 + 6 + 4 + 2 + 0 + 7);
        D.due("12 the last can't", y.judge(15, a, b, five(10, 24, 11, 12, 24)), y, 14,
            9 + 7 + 5 + 3 + 1 + 9 + 8, 8 + 6 + 4 + 2 + 0 + 7);
        D.due("12 not HEIR 1's", y.judge(12, a, b, five(10, 13)), y, 11, 9 + 7 + 5 + 3 + 1 + 9, 8 + 6 + 4 + 2);
        D.due("12 the sixth", y.judge(6, a, five(4), 0), y, 5, 9 + 7 + 5, 8 + 6);
    }

    private static void taken() {
        AllAboveIt x = withBack();
        D.due("13 nothing", x.taken(), x, 0, 0, 0);
        x.move(1);
        x.move(15);
        D.due("13 of what was put back, too", x.taken(), x, 7, 7, 0);
        x.move(1);
        x.move(0);
        D.due("13 twice", x.taken(), x, 17, 10, 7);
        x.sheet(2, 4, 1, 1);
        D.due("13 as they are now", x.taken(), x, 12, 7, 5);
        x.undo();
        D.due("13 undone", x.taken(), x, 7, 7, 0);
        x.begin();
        D.due("13 anew", x.taken(), x, 0, 0, 0);
    }
}
