import java.util.ArrayList;
import java.util.List;
import java.util.Random;
import java.util.function.Function;

/**
 * What an object has worked out for earlier calls never shows: runs by chance (the same each time), up to fourteen
 * THINGS. Each question is put to an object that has answered all the earlier ones, and to a new one on which just
 * those calls were made that change something.
 */
public final class VeteranTest {
    private static final Due D = new Due();

    private record Call(String name, Function<AllAboveIt, Object> made) { }

    private final Random random;
    private final AllAboveIt veteran = new AllAboveIt();
    private final List<Call> changes = new ArrayList<>();
    private final int most;

    private VeteranTest(int seed, int most) {
        random = new Random(seed);
        this.most = most;
    }

    public static void main(String[] args) {
        for (int seed = 0; seed < 150; seed++) {
            new VeteranTest(seed, 3 + seed % 6).play(120);
        }
        for (int seed = 1000; seed < 1012; seed++) {
            new VeteranTest(seed, 9 + seed % 6).play(60);
        }
        D.close("VeteranTest");
    }

    private void play(int calls) {
        change(told(1 + random.nextInt(most)));
        for (int k = 0; k < calls; k++) {
            if (random.nextInt(3) == 0) {
                change(someChange());
            } else {
                ask(someQuestion());
            }
        }
    }

    private void change(Call call) {
        changes.add(call);
        call.made.apply(veteran);
    }

    private void ask(Call question) {
        AllAboveIt fresh = new AllAboveIt();
        for (Call call : changes) {
            call.made.apply(fresh);
        }
        Object want = question.made.apply(fresh);
        D.due(question.name, String.valueOf(question.made.apply(veteran)), String.valueOf(want));
        D.due(question.name + ": the row", Due.told(veteran), Due.told(fresh));
        changes.add(question.name.startsWith("wins") ? question : new Call("wins()", AllAboveIt::wins));
        veteran.wins();
    }

    private Call told(int lines) {
        StringBuilder text = new StringBuilder();
        int ahead = veteran.count(0);
        int wide = random.nextInt(5);
        for (int k = 0; k < lines && ahead + k < most && text.length() < 60; k++) {
            text.append(k == 0 ? "" : ";").append(random.nextInt(10)).append(':').append(1 + random.nextInt(7));
            if (ahead + k > 0 && random.nextInt(5) >= wide) {
                text.append('^').append(random.nextInt(ahead + k));
            }
            text.append(random.nextInt(8) == 0 ? "r" : "");
        }
        String all = text.toString();
        return new Call("piles of " + all, x -> Due.piles(x, all));
    }

    private Call someChange() {
        int a = random.nextInt(4);
        int b = random.nextInt(5) - 1;
        int c = random.nextInt(20) - 5;
        switch (random.nextInt(12)) {
            case 0:
                return told(1 + random.nextInt(3));
            case 1:
                return new Call("ends", x -> x.ends(a & 1));
            case 2:
                return new Call("sheet", x -> x.sheet(a, 14, c, b));
            case 3:
                return new Call("undo", AllAboveIt::undo);
            case 4:
                return new Call("begin", AllAboveIt::begin);
            case 5:
                return new Call("likes", x -> x.likes(a, b));
            case 6:
                return new Call("keep", x -> x.keep(a));
            case 7:
                return new Call("again", x -> x.again(a));
            default:
                return someMove();
        }
    }

    private Call someMove() {
        int may = veteran.may(veteran.count(3));
        int skip = may == 0 ? 0 : random.nextInt(Integer.bitCount(may));
        for (int k = 0; k < skip; k++) {
            may &= may - 1;
        }
        int move = may == 0 ? random.nextInt(28) : Integer.numberOfTrailingZeros(may);
        return new Call("move", x -> x.move(move));
    }

    private Call someQuestion() {
        int a = random.nextInt(3);
        int b = random.nextInt(2);
        int c = random.nextInt(11);
        int some = random.nextInt(1 << veteran.count(0));
        List<Call> all = List.of(new Call("wins()", AllAboveIt::wins), new Call("would", x -> x.would(a & 1, b)),
            new Call("soon()", AllAboveIt::soon), new Call("leave()", AllAboveIt::leave),
            new Call("states()", AllAboveIt::states), new Call("lines", x -> x.lines(a + b)),
            new Call("forced()", AllAboveIt::forced), new Call("tempo", x -> x.tempo(a)),
            new Call("value()", AllAboveIt::value), new Call("alone", x -> x.alone(some)),
            new Call("heaps()", AllAboveIt::heaps), new Call("make", x -> x.make(a)),
            new Call("joined()", AllAboveIt::joined), new Call("alike", x -> x.alike(a, c)),
            new Call("wall", x -> x.wall(7 - a, 6 - a, 5 - a, b)), new Call("best()", AllAboveIt::best),
            new Call("gets", x -> x.gets(b, some)), new Call("greedy()", AllAboveIt::greedy),
            new Call("limits()", AllAboveIt::limits), new Call("mean()", AllAboveIt::mean),
            new Call("parrot", x -> x.parrot(a)), new Call("parrots()", AllAboveIt::parrots),
            new Call("out", x -> x.out(a)), new Call("notary", x -> x.notary(b, c)),
            new Call("change()", AllAboveIt::change), new Call("single()", AllAboveIt::single),
            new Call("taken()", AllAboveIt::taken), new Call("heap", x -> x.heap(a)));
        return all.get(random.nextInt(all.size()));
    }
}
