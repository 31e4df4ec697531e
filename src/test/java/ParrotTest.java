/** Promises 35 to 38: three HEIRS and the parrot. */
public final class ParrotTest {
    private static final Due D = new Due();

    public static void main(String[] args) {
        likes();
        parrot();
        parrots();
        out();
        allWays();
        D.close("ParrotTest");
    }

    private static void likes() {
        AllAboveIt x = Due.piled("1:7;1:7^0;1:7^1");
        D.due("35 at first 0 likes 1", x.parrot(0), x, 1, 1);
        D.due("35 at first 1 likes 2", x.parrot(1), x, 2, 1);
        D.due("35 at first 2 likes 0", x.parrot(2), x, 0, 1);
        int[][] refused = {{0, 0}, {1, 1}, {2, 2}, {3, 0}, {-1, 1}, {0, 3}, {1, -1}};
        for (int[] pair : refused) {
            D.due("35 likes(" + pair[0] + ", " + pair[1] + ")", x.likes(pair[0], pair[1]), false);
        }
        D.due("35 refused", x.parrot(0), x, 1, 1);
        D.due("35 likes(0, 2)", x.likes(0, 2), true);
        D.due("35 0 likes 2", x.parrot(0), x, 2, 2);
        D.due("35 likes(1, 0)", x.likes(1, 0), true);
        D.due("35 1 likes 0", x.parrot(1), x, 0, 2);
        D.due("35 likes(2, 1)", x.likes(2, 1), true);
        D.due("35 2 likes 1", x.parrot(2), x, 1, 2);
        D.due("35 likes(0, 1)", x.likes(0, 1), true);
        D.due("35 0 likes 1 again", x.parrot(0), x, 1, 1);
    }

    private static void parrot() {
        AllAboveIt x = Due.piled("1:7");
        D.due("36 it has to", x.parrot(0), x, 0, 0);
        D.due("36 it has to", x.parrot(2), x, 2, 0);
        D.due("36 none such", x.parrot(3), x, -1, 0);
        D.due("36 none such", x.parrot(-1), x, -1, 0);
        x.move(0);
        D.due("36 nobody", x.parrot(1), x, 3, -1);
        AllAboveIt y = Due.piled("1:7;1:7");
        D.due("36 the next one", y.parrot(0), y, 1, 0);
        AllAboveIt z = Due.piled("1:1;1:1^0;1:4");
        D.due("36 who has no MOVE ends it", z.parrot(0), z, 0, 0);
        D.due("36 2, 0, then 1 has none", z.parrot(2), z, 0, 2);
        D.due("36 1 has none", z.parrot(1), z, 3, -1);
        AllAboveIt b = Due.piled("1:1r;1:2");
        // 0 takes 0; 1 takes 1, so that 2 has to put 0 back and 0 takes it again
        D.due("36 2 has to put back", b.parrot(0), b, 0, 0);
        b.move(0);
        D.due("36 to put back is a MOVE", b.parrot(2), b, 1, 14);
        D.due("36 nothing changes", b.count(2), 1);
    }

    private static void parrots() {
        AllAboveIt x = Due.piled("1:7;1:7^0;1:7^1");
        D.due("37 all unlike", x.parrots(), x, 3, 1, 2, 0);
        AllAboveIt y = Due.piled("1:1;1:2");
        D.due("37 two unlike", y.parrots(), y, 2, 1, 1, 3);
        AllAboveIt z = new AllAboveIt();
        D.due("37 nobody", z.parrots(), z, 1, 3, 3, 3);
    }

    private static void out() {
        AllAboveIt x = Due.piled("1:7;1:7^0;1:7^1");
        x.taken();
        D.due("38 without 0", x.out(1), x, 0, 0, 0);
        D.due("38 it does not keep it", x.out(0), -3);
        D.due("38 it does not keep it", x.out(2), -3);
        D.due("38 none such", x.out(3), -1);
        D.due("38 none such", x.out(-1), -1);
        AllAboveIt y = Due.piled("1:1;1:2");
        D.due("38 with either", y.out(1), -2);
        AllAboveIt z = Due.piled("1:1;1:4");
        D.due("38 without 1", z.out(0), 1);
        AllAboveIt w = Due.piled("1:1;1:2;1:2");
        D.due("38 0 and 1, then nobody else", w.parrot(0), 1);
        D.due("38 with either", w.out(1), -2);
        AllAboveIt v = Due.piled("1:1;1:2;1:1");
        D.due("38 2 ends it", v.parrot(0), 1);
        D.due("38 without 2", v.out(1), 2);
        D.due("38 nobody keeps it", new AllAboveIt().out(1), -3);
    }

    /** All eight ways to like, one behind the other on the same object, with what two HEIRS alone do between. */
    private static void allWays() {
        java.util.Random random = new java.util.Random(36);
        for (int k = 0; k < 60; k++) {
            String text = Oracle.someText(random, 2 + random.nextInt(5), 2 + k % 4).replace(":3", ":7");
            AllAboveIt x = Due.piled(text);
            Oracle o = Oracle.piled(text);
            for (int way = 0; way < 24; way++) {
                for (int heir = 0; heir < 3; heir++) {
                    int whom = (heir + 1 + (way >> heir & 1)) % 3;
                    x.likes(heir, whom);
                    o.likes(heir, whom);
                }
                o.parrots();
                D.due("37 parrots() of " + text, x.parrots(), x, o.parrots(), o.row(0), o.row(1), o.row(2));
                for (int heir = 0; heir < 3; heir++) {
                    D.due("38 out(" + heir + ") of " + text, x.out(heir), o.out(heir));
                }
            }
        }
    }
}
