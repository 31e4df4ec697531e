/** Promises 14 to 21: who wins, how soon, what can come. */
public final class WinsTest {
    private static final Due D = new Due();
    private static final String FOURTEEN = "1:3;1:3;1:3;1:3;1:3;1:3;1:3;1:3;1:3;1:3;1:3;1:3;1:3;1:3";

    public static void main(String[] args) {
        byMoves();
        byWhom();
        howSoon();
        leaving();
        states();
        lines();
        forced();
        tempo();
        D.close("WinsTest");
    }

    private static void byMoves() {
        AllAboveIt x = Due.piled("1:3;1:3^0");
        D.due("14 two by END 0", x.wins(), x, 0, 1);
        x.ends(1);
        D.due("14 two by END 1", x.wins(), x, 0, 2);
        x.move(1);
        D.due("14 one by END 1", x.wins(), x, 0, 0);
        x.move(0);
        D.due("14 none by END 1", x.wins(), x, 0, 0);
        x.ends(0);
        D.due("14 none by END 0", x.wins(), x, 1, 0);
        AllAboveIt y = Due.piled("1:3r;1:3;1:3");
        D.due("14 with one BACK", y.wins(), y, 0, 7);
        y.move(0);
        D.due("14 HEIR 1 then", y.wins(), y, 0, 0);
        y.move(1);
        y.move(2);
        D.due("14 to put back loses", y.wins(), y, 0, 0);
        y.ends(1);
        D.due("14 to put back wins", y.wins(), y, 1, 1 << 14);
        AllAboveIt z = Due.piled(FOURTEEN);
        D.due("14 fourteen", z.wins(), z, 1, 0);
        z.ends(1);
        D.due("14 fourteen by END 1", z.wins(), z, 0, (1 << 14) - 1);
    }

    private static void byWhom() {
        AllAboveIt x = Due.piled("1:1;1:1;1:2");
        D.due("15 would(0, 0)", x.would(0, 0), 0);
        D.due("15 would(1, 0)", x.would(1, 0), 0);
        D.due("15 would(0, 1)", x.would(0, 1), 1);
        D.due("15 would(1, 1)", x.would(1, 1), 1);
        D.due("15 would(2, 0)", x.would(2, 0), -1);
        D.due("15 would(-1, 0)", x.would(-1, 0), -1);
        D.due("15 would(0, 2)", x.would(0, 2), -1);
        D.due("15 would(0, -1)", x.would(0, -1), -1);
        D.due("15 END stays", x.count(5), 0);
        D.due("15 no ROW", x.count(6), 0);
    }

    private static void howSoon() {
        AllAboveIt x = Due.piled("1:3;1:3^0");
        D.due("16 all at once", x.soon(), x, 1, 0);
        x.ends(1);
        D.due("16 one, then one", x.soon(), x, 2, 1);
        D.due("16 two ones", Due.piled("1:3;1:3").soon(), 2);
        AllAboveIt y = Due.piled("1:3;1:3^0;1:3;1:3^2");
        D.due("16 who loses holds out", y.soon(), y, 4, 1);
        y.move(0);
        D.due("16 who wins does it at once", y.soon(), y, 1, 2);
        AllAboveIt z = Due.piled("1:1;1:1^0;1:1^1");
        D.due("16 nobody else has a MOVE", z.soon(), z, 1, 0);
        z.ends(1);
        D.due("16 who loses can't hold out", z.soon(), z, 1, 0);
        AllAboveIt back = Due.piled("1:3r;1:3r");
        D.due("16 with BACK", back.soon(), back, 6, 0);
    }

    private static void leaving() {
        AllAboveIt x = Due.piled("1:3;1:3");
        D.due("17 it had to", x.leave(), x, 0, 1);
        x.move(0);
        D.due("17 HEIR 1 wins without", x.leave(), x, 1, 0);
        x.ends(1);
        D.due("17 HEIR 1 by END 1", x.leave(), x, 1, 1);
        AllAboveIt y = Due.piled("1:2");
        D.due("17 it does not help", y.leave(), y, 1, 0);
        y.ends(1);
        D.due("17 it need not", y.leave(), y, 0, 0);
        D.due("17 nothing changes", y.count(2), 0);
    }

    private static void states() {
        AllAboveIt x = Due.piled("1:1;1:2");
        D.due("18 each its own", x.states(), x, 3, 2);
        x.ends(1);
        D.due("18 by END 1", x.states(), x, 3, 1);
        AllAboveIt y = Due.piled("1:3;1:3^0;1:3^1");
        D.due("18 with who is on turn", y.states(), y, 6, 2);
        AllAboveIt z = Due.piled(FOURTEEN);
        D.due("18 fourteen", z.states(), z, 1 << 14, 1 << 13);
        z.move(0);
        D.due("18 thirteen", z.states(), z, 1 << 13, 1 << 12);
        AllAboveIt b = Due.piled("1:3r;1:3r");
        D.due("18 put back or not", b.states(), b, 16, 8);
    }

    private static void lines() {
        AllAboveIt x = Due.piled(FOURTEEN);
        long want = 1;
        for (int n = 0; n <= 5; n++) {
            D.due("19 lines(" + n + ")", x.lines(n), want);
            want *= 14 - n;
        }
        D.due("19 lines(6)", x.lines(6), -1);
        D.due("19 lines(-1)", x.lines(-1), -1);
        AllAboveIt y = Due.piled("1:1;1:2;1:2;1:1");
        D.due("19 each its own", y.lines(2), 4);
        D.due("19 to the end", y.lines(4), 4);
        D.due("19 no longer", y.lines(5), 0);
        AllAboveIt z = Due.piled("1:1r;1:2");
        D.due("19 with one put back", z.lines(2), 2);
        D.due("19 with one put back", z.lines(3), 2);
        y.move(0);
        D.due("19 from now on", y.lines(1), 2);
    }

    private static void forced() {
        AllAboveIt x = Due.piled("1:1;1:2^0");
        D.due("20 one", x.forced(), x, 1, 0);
        AllAboveIt y = Due.piled("1:1;1:2;1:4");
        D.due("20 two", y.forced(), y, 2, 0, 1);
        AllAboveIt z = Due.piled("1:1;1:1");
        D.due("20 a choice", z.forced(), z, 0);
        z.move(0);
        D.due("20 nothing to choose", z.forced(), z, 0);
        AllAboveIt b = Due.piled("1:3;1:7^0r");
        b.move(0);
        D.due("20 not what LIES ON what is gone", b.forced(), b, 0);
        AllAboveIt c = Due.piled("1:4;1:1^0r");
        D.due("20 put back", c.forced(), c, 3, 1, 15, 1);
    }

    private static void tempo() {
        AllAboveIt x = Due.piled("1:1;1:2^0;1:1^1;1:1");
        D.due("21 HEIR 0", x.tempo(0), x, 3, 2);
        D.due("21 HEIR 1", x.tempo(1), x, 1, 1);
        D.due("21 HEIR 2", x.tempo(2), x, 0, 0);
        D.due("21 HEIR 3", x.tempo(3), x, -1, 0);
        D.due("21 HEIR -1", x.tempo(-1), x, -1, 0);
        x.move(2);
        D.due("21 as it is now", x.tempo(0), x, 2, 2);
        AllAboveIt y = Due.piled("1:3r;1:3^0r");
        D.due("21 nothing put back", y.tempo(1), y, 2, 1);
        y.move(0);
        D.due("21 nothing put back", y.tempo(1), y, 0, 0);
    }
}
