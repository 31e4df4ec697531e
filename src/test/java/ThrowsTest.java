import java.util.List;
import java.util.NoSuchElementException;
import java.util.Random;

/**
 * No call throws but thing() and row(), and these NoSuchElementException alone: runs of 512 calls by chance (the same
 * each time) with numbers at and beyond every edge, up to fourteen THINGS.
 */
public final class ThrowsTest {
    private static final Due D = new Due();
    private static final int[] EDGES = {Integer.MIN_VALUE, Integer.MAX_VALUE, -64, -14, -2, -1, 0, 1, 2, 3, 5, 6, 7, 8,
        10, 11, 13, 14, 15, 16, 27, 28, 31, 32, 63, 64, 80, 81, 1 << 13, (1 << 14) - 1, 1 << 14, 1 << 16, 1 << 30};

    private interface Call {
        void make(AllAboveIt x, int a, int b, int c, int d);
    }

    private static final List<Call> NEVER = List.of((x, a, b, c, d) -> x.sign(a), (x, a, b, c, d) -> x.end(a),
        (x, a, b, c, d) -> x.piles(), (x, a, b, c, d) -> x.ends(a), (x, a, b, c, d) -> x.sheet(a, b, c, d),
        (x, a, b, c, d) -> x.may(a), (x, a, b, c, d) -> x.move(a), (x, a, b, c, d) -> x.undo(),
        (x, a, b, c, d) -> x.begin(), (x, a, b, c, d) -> x.judge(a, b, c, d), (x, a, b, c, d) -> x.taken(),
        (x, a, b, c, d) -> x.wins(), (x, a, b, c, d) -> x.would(a, b), (x, a, b, c, d) -> x.soon(),
        (x, a, b, c, d) -> x.leave(), (x, a, b, c, d) -> x.states(), (x, a, b, c, d) -> x.lines(a),
        (x, a, b, c, d) -> x.forced(), (x, a, b, c, d) -> x.tempo(a), (x, a, b, c, d) -> x.value(),
        (x, a, b, c, d) -> x.alone(a), (x, a, b, c, d) -> x.heap(a), (x, a, b, c, d) -> x.heaps(),
        (x, a, b, c, d) -> x.make(a), (x, a, b, c, d) -> x.joined(), (x, a, b, c, d) -> x.alike(a, b),
        (x, a, b, c, d) -> x.wall(a, b, c, d), (x, a, b, c, d) -> x.best(), (x, a, b, c, d) -> x.gets(a, b),
        (x, a, b, c, d) -> x.greedy(), (x, a, b, c, d) -> x.limits(), (x, a, b, c, d) -> x.mean(),
        (x, a, b, c, d) -> x.likes(a, b), (x, a, b, c, d) -> x.parrot(a), (x, a, b, c, d) -> x.parrots(),
        (x, a, b, c, d) -> x.out(a), (x, a, b, c, d) -> x.notary(a, b), (x, a, b, c, d) -> x.change(),
        (x, a, b, c, d) -> x.single(), (x, a, b, c, d) -> x.keep(a), (x, a, b, c, d) -> x.again(a),
        (x, a, b, c, d) -> x.count(a));
    private static final List<Call> NONE_SUCH = List.of((x, a, b, c, d) -> x.thing(a, b), (x, a, b, c, d) -> x.row(a));

    public static void main(String[] args) {
        for (int seed = 0; seed < 300; seed++) {
            play(new Random(seed), seed);
        }
        D.close("ThrowsTest");
    }

    private static void play(Random random, int seed) {
        AllAboveIt x = new AllAboveIt();
        for (int k = 0; k < 512; k++) {
            int a = some(random);
            int b = some(random);
            int c = some(random);
            int d = some(random);
            int which = random.nextInt(NEVER.size() + NONE_SUCH.size() + 8);
            if (which < NEVER.size()) {
                D.due("seed " + seed + ", call " + k, thrown(NEVER.get(which), x, a, b, c, d), "nothing");
            } else if (which < NEVER.size() + NONE_SUCH.size()) {
                String thrown = thrown(NONE_SUCH.get(which - NEVER.size()), x, a, b, c, d);
                boolean due = thrown.equals("nothing") || thrown.equals(NoSuchElementException.class.getName());
                D.due("seed " + seed + ", call " + k + " threw " + thrown, due, true);
            } else if (which % 4 == 0) {
                Due.piles(x, lines(random, x.count(0)));
            } else {
                int may = x.may(x.count(3));
                x.move(may == 0 ? a : Integer.numberOfTrailingZeros(may));
            }
        }
    }

    private static int some(Random random) {
        int kind = random.nextInt(4);
        int edge = EDGES[random.nextInt(EDGES.length)];
        return kind == 0 ? random.nextInt() : kind == 1 ? edge : random.nextInt(4 * kind);
    }

    private static String thrown(Call call, AllAboveIt x, int a, int b, int c, int d) {
        try {
            call.make(x, a, b, c, d);
            return "nothing";
        } catch (RuntimeException | StackOverflowError e) {
            return e.getClass().getName();
        }
    }

    private static String lines(Random random, int ahead) {
        StringBuilder text = new StringBuilder();
        for (int k = 0; k < 1 + random.nextInt(5); k++) {
            text.append(k == 0 ? "" : ";").append(random.nextInt(10)).append(':').append(1 + random.nextInt(7));
            if (ahead + k > 0 && random.nextBoolean()) {
                text.append('^').append(random.nextInt(ahead + k));
            }
            text.append(random.nextInt(6) == 0 ? "r" : "");
        }
        return text.toString();
    }
}
