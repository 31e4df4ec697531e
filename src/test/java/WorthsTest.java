/** Promises 30 to 34: who gets more, by the best, by greed, at the limits, in the mean. */
public final class WorthsTest {
    private static final Due D = new Due();

    public static void main(String[] args) {
        best();
        gets();
        greedy();
        limits();
        mean();
        means();
        D.close("WorthsTest");
    }

    private static void best() {
        AllAboveIt x = Due.piled("5:1;3:2");
        D.due("30 each its own", x.best(), x, 2, 0);
        x.ends(1);
        D.due("30 END does not count", x.best(), x, 2, 0);
        x.move(0);
        D.due("30 HEIR 1", x.best(), x, 3, 1);
        x.move(1);
        D.due("30 no MOVE", x.best(), x, 0, -1);
        AllAboveIt y = Due.piled("0:1;9:2");
        D.due("30 it has to", y.best(), y, -9, 0);
        AllAboveIt z = Due.piled("9:3;1:3^0;2:3");
        D.due("30 with what is ABOVE", z.best(), z, 8, 0);
        AllAboveIt w = Due.piled("1:3;4:3;4:3;2:3");
        D.due("30 the first of two", w.best(), w, 1, 1);
        w.sheet(2, 4, 9, -3);
        D.due("30 by other WORTHS", w.best(), w, 9 - 6 + 3 - 0, 0);
        w.sheet(3, 0, 0, 0);
        D.due("30 by none", w.best(), w, 0, 0);
        AllAboveIt b = Due.piled("2:3r;1:2");
        // HEIR 0 takes 0, HEIR 1 takes 1, HEIR 0 has to put 0 back, HEIR 1 takes it
        D.due("30 it has to put back", b.best(), b, 2 - 1 + 0 - 2, 0);
        b.move(0);
        D.due("30 to put back counts nothing", b.best(), b, 1 - 0 + 2, 1);
    }

    private static void gets() {
        AllAboveIt x = Due.piled("5:1;3:2^0;2:3r");
        D.due("31 all", x.gets(0, 7), 6);
        D.due("31 HEIR 1", x.gets(1, 7), 3 - 5 + 2);
        D.due("31 it alone", x.gets(1, 2), 3);
        D.due("31 not its own", x.gets(0, 2), 0);
        D.due("31 nothing put back", x.gets(0, 4), 2);
        D.due("31 none", x.gets(0, 0), 0);
        D.due("31 HEIR 2", x.gets(2, 1), -1);
        D.due("31 HEIR -1", x.gets(-1, 1), -1);
        D.due("31 no such THING", x.gets(0, 8), -1);
        D.due("31 no such THING", x.gets(0, -8), -1);
        x.move(0);
        D.due("31 whatever is THERE", x.gets(0, 3), 8);
        D.due("31 no ROW", x.count(6), 0);
        x.sheet(2, 3, 1, 1);
        D.due("31 as they are now", x.gets(0, 3), 3);
        D.due("31 to -1, which is no refusal", Due.piled("0:1;1:2").gets(0, 3), -1);
    }

    private static void greedy() {
        AllAboveIt x = Due.piled("1:3;4:3^0;4:3;9:2;2:1");
        D.due("32 both", x.greedy(), x, 3, 5 + 4, 9);
        x = Due.piled("4:3;4:3;3:3");
        x.move(2);
        D.due("32 HEIR 1 is first", x.greedy(), x, 2, 4, 4);
        x = Due.piled("5:3;5:1;1:2");
        D.due("32 the first of two", x.greedy(), x, 3, 10, 1);
        x = Due.piled("0:3;0:2^0");
        D.due("32 of no WORTH", x.greedy(), x, 1, 0, 0);
        x = Due.piled("3:3r;1:3");
        D.due("32 nothing is put back", x.greedy(), x, 2, 3, 1);
        D.due("32 nothing changes", x.count(2), 0);
        x = Due.piled("3:2");
        D.due("32 nothing to take", x.greedy(), x, 0, 0, 0);
    }

    private static void limits() {
        AllAboveIt x = Due.piled("5:1;3:2^0;2:4;1:2");
        D.due("33 HEIR 0", x.limits(), x, 0, -4, 8);
        x.move(0);
        D.due("33 HEIR 1", x.limits(), x, 0, 0, 1);
        x.move(3);
        D.due("33 neither", x.limits(), x, 1, 0, 0);
        AllAboveIt y = Due.piled("0:3;0:3^0");
        D.due("33 of no WORTH", y.limits(), y, 1, 0, 0);
        AllAboveIt z = Due.piled("1:1;2:1^0;3:2^1");
        D.due("33 each once", z.limits(), z, 0, -3, 6);
        AllAboveIt b = Due.piled("1:1r;2:2");
        b.move(0);
        D.due("33 what is THERE", b.limits(), b, 0, 0, 2);
    }

    private static void mean() {
        AllAboveIt x = Due.piled("5:3;2:3");
        D.due("34 as much", x.mean(), x, 0, 0, 1);
        x = Due.piled("5:3;2:3^0");
        D.due("34 one on one", x.mean(), x, 0, 2, 1);
        x = Due.piled("1:3;0:3;0:3");
        D.due("34 a third", x.mean(), x, 0, 1, 3);
        x = Due.piled("0:1;9:2");
        D.due("34 below 0", x.mean(), x, 0, -9, 1);
        x = Due.piled("1:3;0:1;2:2");
        D.due("34 below 0", x.mean(), x, 0, -1, 1);
        x = Due.piled("9:3;8:3^0;7:3^0;6:3;5:3^3;4:1^2,4");
        D.due("34 six", x.mean(), 0);
        x = Due.piled("1:3;1:3;1:3;1:3;1:3;1:3;1:3");
        D.due("34 seven", x.mean(), x, -3);
        x.move(0);
        D.due("34 six THERE", x.mean(), x, 0, 0, 1);
        x = Due.piled("1:3;1:3r");
        x.taken();
        D.due("34 BACK", x.mean(), x, -3, 0, 0);
        x.move(1);
        D.due("34 BACK, though gone", x.mean(), -3);
        x.sheet(2, 2, 1, 1);
        D.due("34 no THINGS", new AllAboveIt().mean(), 0);
    }

    /** Six THINGS, so that fractions get as fine as can be. */
    private static void means() {
        int[] worth = {9, 7, 4, 2, 1, 8};
        for (int heirs = 0; heirs < 729; heirs++) {
            String text = Oracle.onNone(worth, heirs);
            if (text != null) {
                AllAboveIt x = Due.piled(text);
                Oracle o = Oracle.piled(text);
                o.mean();
                D.due("34 mean() of " + text, x.mean(), x, 0, o.row(0), o.row(1));
            }
        }
        java.util.Random random = new java.util.Random(34);
        for (int k = 0; k < 150; k++) {
            String text = Oracle.someText(random, 6, 2 + k % 9);
            AllAboveIt x = Due.piled(text);
            Oracle o = Oracle.piled(text);
            o.mean();
            D.due("34 mean() of " + text, x.mean(), x, 0, o.row(0), o.row(1));
        }
    }
}
