/** Promises 42 to 45: what is kept, counts, the ROW. */
public final class KeptTest {
    private static final Due D = new Due();

    public static void main(String[] args) {
        keeping();
        told();
        counts();
        rows();
        D.close("KeptTest");
    }

    private static void keeping() {
        AllAboveIt x = Due.piled("1:3;2:3^0r;3:3");
        for (int i = -1; i <= 3; i++) {
            D.due("43 nothing kept under " + i, x.again(i), false);
        }
        D.due("42 keep(-1)", x.keep(-1), false);
        D.due("42 keep(3)", x.keep(3), false);
        D.due("42 keep(0)", x.keep(0), true);
        x.move(1);
        x.move(15);
        x.ends(1);
        D.due("42 keep(2)", x.keep(2), true);
        D.due("43 nothing kept under 1", x.again(1), false);
        x.move(0);
        x.move(2);
        x.ends(0);
        D.due("43 again(2)", x.again(2), true);
        D.due("43 THERE", x.count(1), 7);
        D.due("43 put back", x.count(4), 2);
        D.due("43 MOVES", x.count(2), 2);
        D.due("43 on turn", x.count(3), 0);
        D.due("43 END", x.count(5), 1);
        D.due("43 what was taken", x.taken(), x, 2, 2, 0);
        D.due("43 undo()", x.undo(), 1);
        D.due("43 undo()", x.undo(), 0);
        D.due("43 kept is not undone", x.again(2), true);
        D.due("43 kept is not undone", x.count(2), 2);
        x.keep(0);
        x.begin();
        D.due("42 kept anew", x.again(0), true);
        D.due("42 kept anew", x.count(2), 2);
        x.sheet(2, 3, 4, 1);
        x.again(0);
        D.due("42 WORTHS are not kept", x.taken(), 5);
        D.due("43 again(3)", x.again(3), false);
        D.due("43 again(-1)", x.again(-1), false);
    }

    private static void told() {
        AllAboveIt x = Due.piled("1:3;2:3");
        x.move(0);
        x.keep(1);
        Due.piles(x, "x");
        D.due("43 a text that was refused", x.again(1), true);
        Due.piles(x, "");
        D.due("43 an empty one tells no THINGS", x.again(1), true);
        D.due("43 as it was", x.count(2), 1);
        Due.piles(x, "3:3");
        D.due("43 THINGS were told since", x.again(1), false);
        D.due("43 refused", x.count(1), 7);
        x.keep(1);
        D.due("43 kept anew", x.again(1), true);
        D.due("43 another not", x.again(0), false);
    }

    private static void counts() {
        AllAboveIt x = Due.piled("1:3;2:3^0r;3:3");
        x.move(1);
        x.move(15);
        x.move(2);
        x.ends(1);
        x.taken();
        x.sign(0);
        int[] want = {3, 3, 3, 1, 2, 1, 2, 4};
        for (int what = 0; what < 8; what++) {
            D.due("44 count(" + what + ")", x.count(what), want[what]);
        }
        D.due("44 count(8)", x.count(8), -1);
        D.due("44 count(-1)", x.count(-1), -1);
    }

    private static void rows() {
        AllAboveIt x = Due.piled("1:1;2:2;3:1;4:2");
        D.due("45 before any", Due.rowThrows(x, 0), true);
        x.limits();
        D.due("45 two", x.count(6), 2);
        D.due("45 row(0)", x.row(0), -6);
        D.due("45 row(1)", x.row(1), 4);
        D.due("45 row(2)", Due.rowThrows(x, 2), true);
        D.due("45 row(-1)", Due.rowThrows(x, -1), true);
        D.due("45 row(MAX)", Due.rowThrows(x, Integer.MAX_VALUE), true);
        x.tempo(3);
        x.judge(16, 0, 0, 0);
        x.wall(0, 1, 0, 0);
        x.parrot(3);
        x.notary(2, 2);
        x.move(0);
        x.lines(3);
        x.would(0, 0);
        x.alone(1);
        x.gets(0, 1);
        x.begin();
        x.undo();
        D.due("45 calls that say nothing of it leave it", x.row(0), -6);
        x.wins();
        D.due("45 one", x.count(6), 1);
        D.due("45 row(1)", Due.rowThrows(x, 1), true);
        x.heaps();
        D.due("45 four", x.count(6), 4);
        Due.piles(x, "1:3");
        D.due("45 still told", x.count(6), 4);
    }
}
