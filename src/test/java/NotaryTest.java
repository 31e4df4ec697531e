/** Promise 39: the notary. */
public final class NotaryTest {
    private static final Due D = new Due();

    public static void main(String[] args) {
        AllAboveIt x = Due.piled("1:3;1:3^0");
        D.due("39 never", x.notary(0, 0), x, 0, 1, 1);
        D.due("39 never, the other one", x.notary(1, 0), x, 0, 0, 1);
        D.due("39 in one case", x.notary(0, 1), x, 0, 19, 20);
        D.due("39 in half of them", x.notary(0, 5), x, 0, 3, 4);
        D.due("39 the other one", x.notary(1, 5), x, 0, 1, 4);
        D.due("39 always", x.notary(0, 10), x, 0, 1, 2);
        x.ends(1);
        D.due("39 by END 1", x.notary(0, 4), x, 0, 4, 5);
        refused(x);
        x.move(0);
        D.due("39 no MOVE by END 1", x.notary(1, 4), x, 0, 1, 1);
        x.ends(0);
        D.due("39 no MOVE by END 0", x.notary(1, 4), x, 0, 0, 1);
        bothHaveOne();
        tooMuch();
        byChance();
        D.close("NotaryTest");
    }

    private static void refused(AllAboveIt x) {
        D.due("39 HEIR 2", x.notary(2, 5), x, -1, 4, 5);
        D.due("39 HEIR -1", x.notary(-1, 5), x, -1, 4, 5);
        D.due("39 c 11", x.notary(0, 11), x, -1, 4, 5);
        D.due("39 c -1", x.notary(0, -1), x, -1, 4, 5);
    }

    /** A tower of three beside one: HEIR 0 wins by taking 1; if its notary errs, HEIR 1 does its best. */
    private static void bothHaveOne() {
        AllAboveIt x = Due.piled("1:3;1:3^0;1:3^1;1:3");
        // behind 0: {3}, HEIR 1 wins; behind 1: {0, 3}, HEIR 0 wins; behind 2: {0, 1, 3}: HEIR 1 takes
        // 1 and wins, unless its notary takes 0 or 3 (of three); behind 3: {0, 1, 2}: HEIR 1 takes 0, unless 1 or 2
        // c = 10: behind 2: 0 -> {3} HEIR 0 wins; 3 -> {0, 1}: 1/2; 1 -> HEIR 1 wins: 1/2
        // behind 3: 1 -> {0}: HEIR 0 wins; 2 -> {0, 1}: 1/2; 0: HEIR 1 wins: 1/2; in all (0 + 1 + 1/2 + 1/2) / 4
        D.due("39 always, both", x.notary(0, 10), x, 0, 1, 2);
        D.due("39 never", x.notary(0, 0), x, 0, 1, 1);
        AllAboveIt y = Due.piled("1:3;1:3;1:3;1:3;1:3;1:3");
        D.due("39 six that are the same", y.notary(1, 7), y, 0, 1, 1);
        AllAboveIt z = Due.piled("1:3;1:3^0;1:3;1:3^2;1:3;1:3^4");
        Oracle o = Oracle.piled("1:3;1:3^0;1:3;1:3^2;1:3;1:3^4");
        for (int c = 0; c <= 10; c++) {
            o.notary(0, c);
            D.due("39 three towers of two, " + c, z.notary(0, c), z, 0, o.row(0), o.row(1));
        }
    }

    private static void tooMuch() {
        AllAboveIt x = Due.piled("1:3;1:3;1:3;1:3;1:3;1:3;1:3");
        D.due("39 seven", x.notary(0, 5), -3);
        D.due("39 seven, HEIR 2", x.notary(2, 5), -1);
        x.move(6);
        D.due("39 six THERE", x.notary(1, 5), x, 0, 0, 1);
        x = Due.piled("1:3;1:3r");
        x.taken();
        D.due("39 BACK", x.notary(0, 5), x, -3, 0, 0);
        D.due("39 BACK, c 11", x.notary(0, 11), -1);
        x.move(1);
        D.due("39 BACK, though gone", x.notary(0, 5), -3);
    }

    /** Six THINGS, so that fractions get as fine as can be. */
    private static void byChance() {
        for (int heirs = 0; heirs < 729; heirs++) {
            String text = Oracle.onNone(new int[6], heirs);
            if (text != null) {
                AllAboveIt x = Due.piled(text);
                Oracle o = Oracle.piled(text);
                x.ends(1);
                o.ends(1);
                o.notary(0, 7);
                D.due("39 notary(0, 7) of " + text, x.notary(0, 7), x, 0, o.row(0), o.row(1));
            }
        }
        java.util.Random random = new java.util.Random(39);
        for (int k = 0; k < 150; k++) {
            String text = Oracle.someText(random, 6, 2 + k % 9);
            AllAboveIt x = Due.piled(text);
            Oracle o = Oracle.piled(text);
            x.ends(k & 1);
            o.ends(k & 1);
            int c = 1 + random.nextInt(10);
            int heir = k / 2 & 1;
            o.notary(heir, c);
            D.due("39 notary(" + heir + ", " + c + ") of " + text, x.notary(heir, c), x, 0, o.row(0), o.row(1));
        }
    }
}
