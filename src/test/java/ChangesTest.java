/** Promises 40 and 41: the least change that turns who wins. */
public final class ChangesTest {
    private static final Due D = new Due();

    public static void main(String[] args) {
        one();
        two();
        tooMuch();
        byChance();
        D.close("ChangesTest");
    }

    private static void one() {
        AllAboveIt x = new AllAboveIt();
        D.due("40 nothing", x.change(), x, 1, 34);
        D.due("41 nothing", x.single(), x, 1, 0, 0, 1);
        x.ends(1);
        D.due("40 nothing by END 1", x.change(), x, 1, 34);
        x = Due.piled("1:3;1:3");
        D.due("40 two", x.change(), x, 1, 0);
        D.due("41 two", x.single(), x, 5, 3, 3, 1);
        x.move(0);
        D.due("40 one, HEIR 1", x.change(), x, 1, 1);
        D.due("41 one, HEIR 1", x.single(), x, 2, 2, 0, 1);
        x = Due.piled("1:3;1:3^0;1:3;1:3^2;1:3");
        // towers of 2, 2, 1: lost are 2, 2 and 3, 2, 1 and 2, 2, 1, 1
        D.due("40 towers", x.change(), x, 1, 4);
        D.due("41 towers", x.single(), x, 4, 16, 10, 1);
        x = Due.piled("1:1");
        // with one of all HEIRS on it HEIR 1 could not come to MOVE; beside it neither
        D.due("40 HEIR 0's own", x.change(), x, 1, 0);
        D.due("41 HEIR 0's own", x.single(), x, 1, 1, 0, 0);
        x = Due.piled("1:2");
        // HEIR 0 has no MOVE: by one laid on it it has one, but HEIR 1 has the last; beside it likewise
        D.due("40 HEIR 1's own", x.change(), x, 2, 0, 34);
        D.due("41 HEIR 1's own", x.single(), x, 0, 0, 0, 0);
    }

    private static void two() {
        AllAboveIt x = Due.piled("1:1;1:1");
        D.due("40 both are gone", x.change(), x, 2, 0, 1);
        D.due("41 no single one", x.single(), x, 0, 0, 0, 0);
        x = Due.piled("1:1;1:1;1:1");
        D.due("40 two do not do", x.change(), x, -2);
        x = Due.piled("1:1;1:1;1:1;1:1;1:1;1:1;1:1;1:1");
        x.taken();
        D.due("40 eight", x.change(), x, -2, 0, 0);
        D.due("41 eight", x.single(), x, 0, 0, 0, 0);
        x = Due.piled("1:2;1:2^0");
        D.due("40 gone with all ABOVE it, then one laid", x.change(), x, 2, 0, 34);
        x.ends(1);
        D.due("40 by END 1", x.change(), x, 2, 0, 34);
    }

    private static void tooMuch() {
        AllAboveIt x = Due.piled("1:3;1:3;1:3;1:3;1:3;1:3;1:3;1:3;1:3");
        D.due("40 nine", x.change(), x, -3);
        D.due("41 nine", x.single(), x, -3);
        x.move(0);
        D.due("40 eight", x.change(), x, 1, 1);
        D.due("41 eight", x.single(), x, 17, 510, 510, 1);
        x = Due.piled("1:3;1:3r");
        D.due("40 BACK", x.change(), -3);
        D.due("41 BACK", x.single(), -3);
        x.move(1);
        D.due("40 BACK, though gone", x.change(), -3);
        D.due("41 BACK, though gone", x.single(), -3);
    }

    /** All that change() and single() look at, by the slow way. */
    private static void byChance() {
        java.util.Random random = new java.util.Random(40);
        for (int k = 0; k < 400; k++) {
            String text = Oracle.someText(random, 1 + random.nextInt(k % 20 == 0 ? 8 : 5), 2 + k % 4);
            // where each THING is one HEIR's alone a single change seldom does
            text = k % 3 == 0 ? text : text.replace(":3", ":1").replace(":7", ":2");
            AllAboveIt x = Due.piled(text);
            Oracle o = Oracle.piled(text);
            x.ends(k & 1);
            o.ends(k & 1);
            o.row.clear();
            D.due("40 change() of " + text, x.change(), o.change());
            D.due("40 change() of " + text, Due.told(x), o.row.toString());
            D.due("41 single() of " + text, x.single(), o.single());
            D.due("41 single() of " + text, Due.told(x), o.row.toString());
        }
    }
}
