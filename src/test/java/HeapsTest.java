/** Promises 22 to 29: VALUES, HEAPS, joining, walls. */
public final class HeapsTest {
    private static final Due D = new Due();

    public static void main(String[] args) {
        values();
        alone();
        heap();
        heaps();
        making();
        joining();
        alike();
        alikeByChance();
        walls();
        D.close("HeapsTest");
    }

    private static void values() {
        AllAboveIt x = new AllAboveIt();
        D.due("22 nothing", x.value(), x, 0, 0);
        x = Due.piled("1:1;1:2^0;1:4^1;1:4");
        D.due("22 as if each may take all", x.value(), x, 2, 1 | 2 | 8);
        x.move(0);
        D.due("22 of the STATE", x.value(), x, 1, 1);
        x = Due.piled("1:3;1:3;1:3^0,1");
        D.due("22 one on two", x.value(), x, 2, 1 | 2);
        x = Due.piled("1:3;1:3;1:3;1:3;1:3;1:3;1:3;1:3;1:3;1:3;1:3;1:3;1:3;1:3");
        D.due("22 fourteen", x.value(), x, 0, 2);
        x = Due.piled("1:3;1:3^0;1:3^1;1:3^2;1:3^3;1:3^4;1:3^5;1:3^6;1:3^7;1:3^8;1:3^9");
        Due.piles(x, "1:3^10;1:3^11;1:3^12");
        D.due("22 a tower", x.value(), x, 14, (1 << 14) - 1);
        x = Due.piled("1:3r");
        D.due("22 BACK", x.value(), x, 1, 1);
        x.move(0);
        D.due("22 gone, BACK", x.value(), x, 0, 2);
        x.move(14);
        D.due("22 put back", x.value(), x, 1, 1);
        x = Due.piled("1:3;1:3^0r");
        D.due("22 BACK on one", x.value(), x, 2, 1 | 2);
    }

    private static void alone() {
        AllAboveIt x = Due.piled("1:1;1:2^0;1:4^1;1:4r");
        D.due("23 none", x.alone(0), 0);
        D.due("23 all", x.alone(15), 2);
        D.due("23 ABOVE by one that is gone", x.alone(5), 2);
        D.due("23 what hangs on nothing", x.alone(4), 1);
        D.due("23 nothing put back", x.alone(8), 1);
        D.due("23 two alike", x.alone(12), 0);
        D.due("23 no such THING", x.alone(16), -1);
        D.due("23 no such THING", x.alone(-1), -1);
        D.due("23 no such THING", x.alone(Integer.MIN_VALUE), -1);
        x.move(0);
        D.due("23 whatever is THERE", x.alone(7), 3);
        D.due("23 no ROW", x.count(6), 0);
        AllAboveIt y = Due.piled("1:3;1:3^0r");
        D.due("23 BACK on one, as if not", y.alone(3), 2);
        D.due("23 its foot", y.alone(1), 1);
        D.due("23 of none", new AllAboveIt().alone(0), 0);
    }

    private static void heap() {
        AllAboveIt x = Due.piled("1:3;1:3;1:3^0;1:3^0,1;1:3;1:3^4");
        D.due("24 by one on both", x.heap(2), 15);
        D.due("24 by one on both", x.heap(1), 15);
        D.due("24 another", x.heap(5), 48);
        D.due("24 none such", x.heap(6), -1);
        D.due("24 none such", x.heap(-1), -1);
        x.move(3);
        D.due("24 by those THERE", x.heap(2), 5);
        D.due("24 by those THERE", x.heap(1), 2);
        D.due("24 not THERE", x.heap(3), -2);
    }

    private static void heaps() {
        AllAboveIt x = Due.piled("1:3;1:3;1:3^0;1:3^0,1;1:3;1:3^4");
        D.due("25 two", x.heaps(), x, 2, x.alone(15), 2);
        x.move(3);
        D.due("25 three", x.heaps(), x, 3, 2, 1, 2);
        AllAboveIt y = Due.piled("1:3r;1:3;1:3^1");
        y.move(1);
        D.due("25 as alone()", y.heaps(), y, 1, 1);
        y.move(0);
        D.due("25 none", y.heaps(), y, 0);
        AllAboveIt z = Due.piled("1:3;1:3;1:3;1:3;1:3;1:3;1:3;1:3;1:3;1:3;1:3;1:3;1:3;1:3");
        D.due("25 fourteen", z.heaps(), z, 14, 1, 1, 1, 1, 1, 1, 1, 1, 1, 1, 1, 1, 1, 1);
    }

    private static void making() {
        AllAboveIt x = Due.piled("1:4;1:4^0;1:4^1;1:4");
        D.due("26 to 0", x.make(0), 1);
        D.due("26 to 1", x.make(1), 0);
        D.due("26 to 3", x.make(3), 2);
        D.due("26 to what it is", x.make(2), -2);
        D.due("26 to 31", x.make(31), -2);
        D.due("26 to 32", x.make(32), -1);
        D.due("26 to -1", x.make(-1), -1);
        AllAboveIt y = Due.piled("1:3;1:3r");
        y.move(1);
        D.due("26 by putting back", y.make(0), 0);
        y.move(0);
        D.due("26 by putting back", y.make(1), 15);
    }

    private static void joining() {
        AllAboveIt x = Due.piled("1:3;1:3^0;1:3^0;1:3^2");
        D.due("27 a tree", x.joined(), 4);
        D.due("27 as its VALUE", x.value(), 4);
        D.due("27 beside another", Due.piles(x, "1:3;1:3^4"), 2);
        D.due("27 beside another", x.joined(), 6);
        D.due("27 one on two", Due.piles(x, "1:3^1,3"), 1);
        D.due("27 one on two", x.joined(), -2);
        x.move(6);
        D.due("27 that one is gone", x.joined(), 6);
        AllAboveIt y = Due.piled("1:3;1:3r");
        D.due("27 BACK", y.joined(), -2);
        y.move(1);
        D.due("27 BACK, though gone", y.joined(), -2);
        y.move(0);
        D.due("27 nothing THERE is asked first", y.joined(), 0);
        D.due("27 no THINGS", new AllAboveIt().joined(), 0);
    }

    private static void alike() {
        AllAboveIt x = Due.piled("1:3;2:1^0;3:3;4:2^2;1:3;1:3^4;1:3^4;1:3;1:3^7;1:3^8");
        D.due("28 two towers of two", x.alike(0, 3), 1);
        D.due("28 two on one, a tower", x.alike(4, 7), 0);
        D.due("28 not as many", x.alike(0, 4), 0);
        D.due("28 with itself", x.alike(9, 7), 1);
        D.due("28 none such", x.alike(0, 10), -1);
        D.due("28 none such", x.alike(-1, 0), -1);
        x.move(9);
        D.due("28 a tower of two now", x.alike(8, 1), 1);
        D.due("28 not THERE", x.alike(9, 0), -2);
        D.due("28 not THERE", x.alike(0, 9), -2);
        D.due("28 none such goes ahead", x.alike(9, 99), -1);
        AllAboveIt y = Due.piled("1:3;1:3;1:3^0,1;1:3;1:3^3;1:3^3;1:3;1:3^6;1:3^6,7;1:3;1:3^9;1:3^10");
        D.due("28 one on two, two on one", y.alike(0, 3), 0);
        D.due("28 on both, on the upper one", y.alike(6, 9), 0);
        D.due("28 itself", y.alike(8, 6), 1);
        AllAboveIt z = Due.piled("1:3;1:3^0;1:3^0;1:3^0;1:3^0;1:3^0;1:3;1:3^6;1:3^6;1:3^6;1:3^6;1:3^6");
        D.due("28 six and six", z.alike(3, 9), 1);
        D.due("28 a seventh", Due.piles(z, "1:3^6;1:3"), 2);
        D.due("28 six and seven", z.alike(3, 9), -3);
        D.due("28 seven and six", z.alike(9, 3), -3);
        D.due("28 seven and seven", z.alike(6, 6), -3);
        D.due("28 one and seven", z.alike(13, 6), -3);
        z.move(7);
        D.due("28 not THERE goes ahead", z.alike(7, 6), -2);
        D.due("28 six again", z.alike(12, 0), 1);
        AllAboveIt w = Due.piled("1:3;1:3;1:3;1:3^0,1;1:3^1,2;1:3^0,2;1:3;1:3;1:3;1:3^6,8;1:3^7,8;1:3^6,7");
        D.due("28 two rings", w.alike(0, 11), 1);
        D.due("28 no ROW", w.count(6), 0);
    }

    private static void walls() {
        AllAboveIt x = new AllAboveIt();
        for (int a = 0; a < 8; a++) {
            for (int b = 0; b <= a; b++) {
                for (int c = 0; c <= b; c++) {
                    for (int d = 0; d <= c; d++) {
                        int[] rows = {a, b, c, d};
                        int[] stone = Oracle.wallStone(rows);
                        String call = "29 wall(" + a + ", " + b + ", " + c + ", " + d + ")";
                        D.due(call, x.wall(a, b, c, d), Oracle.wallWins(rows) ? 1 : 0);
                        D.due(call, x.row(0), stone == null ? -1 : stone[0]);
                        D.due(call, x.row(1), stone == null ? -1 : stone[1]);
                    }
                }
            }
        }
        D.due("29 none", x.wall(0, 0, 0, 0), x, 1, -1, -1);
        D.due("29 the last", x.wall(1, 0, 0, 0), x, 0, -1, -1);
        D.due("29 a row", x.wall(7, 0, 0, 0), x, 1, 0, 1);
        D.due("29 a column", x.wall(1, 1, 1, 1), x, 1, 1, 0);
        D.due("29 a square", x.wall(4, 4, 4, 4), x, 1, 1, 1);
        D.due("29 longer than the one ahead", x.wall(2, 3, 0, 0), x, -1, 1, 1);
        D.due("29 longer than the one ahead", x.wall(2, 2, 1, 2), x, -1, 1, 1);
        D.due("29 longer than the one ahead", x.wall(2, 1, 2, 1), x, -1, 1, 1);
        D.due("29 too long", x.wall(8, 0, 0, 0), x, -1, 1, 1);
        D.due("29 below 0", x.wall(1, 1, 1, -1), x, -1, 1, 1);
        D.due("29 below 0", x.wall(-1, -1, -1, -1), x, -1, 1, 1);
    }

    /** Two HEAPS of up to six, the second one of the same shape, or with one more LIES ON, or quite another. */
    private static void alikeByChance() {
        java.util.Random random = new java.util.Random(28);
        for (int k = 0; k < 200; k++) {
            int many = 2 + random.nextInt(5);
            int[] under = heapByChance(random, many);
            int[] other = k % 3 == 2 ? heapByChance(random, many) : reordered(random, under);
            if (k % 3 == 1) {
                int i = 1 + random.nextInt(many - 1);
                other[i] |= 1 << random.nextInt(i);
            }
            AllAboveIt x = Due.piled(lines(under, 0));
            Oracle o = Oracle.piled(lines(under, 0));
            Due.piles(x, lines(other, many));
            o.text.append(lines(other, many));
            o.piles();
            D.due("28 alike of " + lines(under, 0) + " and " + lines(other, many), x.alike(0, many), o.alike(0, many));
            D.due("28 alike the other way", x.alike(many, 0), o.alike(0, many));
        }
    }

    /** For each of some THINGS what it LIES ON: one or two ahead. */
    private static int[] heapByChance(java.util.Random random, int many) {
        int[] under = new int[many];
        for (int i = 1; i < many; i++) {
            under[i] = 1 << random.nextInt(i) | (random.nextInt(3) == 0 ? 1 << random.nextInt(i) : 0);
        }
        return under;
    }

    /** The same HEAP, its THINGS told in another order that has what one LIES ON ahead of it. */
    private static int[] reordered(java.util.Random random, int[] under) {
        int many = under.length;
        int[] told = new int[many];
        int[] number = new int[many];
        int done = 0;
        for (int k = 0; k < many; k++) {
            int i = random.nextInt(many);
            while ((done >> i & 1) != 0 || (under[i] & ~done) != 0) {
                i = (i + 1) % many;
            }
            number[i] = k;
            done |= 1 << i;
            for (int j = 0; j < many; j++) {
                told[k] |= (under[i] >> j & 1) << number[j];
            }
        }
        return told;
    }

    private static String lines(int[] under, int ahead) {
        StringBuilder text = new StringBuilder();
        for (int i = 0; i < under.length; i++) {
            text.append(i == 0 ? "1:3" : ";1:3");
            char sign = '^';
            for (int j = 0; j < i; j++) {
                if ((under[i] >> j & 1) != 0) {
                    text.append(sign).append(ahead + j);
                    sign = ',';
                }
            }
        }
        return text.toString();
    }
}
