import java.util.NoSuchElementException;
import java.util.function.Consumer;
import java.util.function.Function;

/**
 * "Refused calls answer NONE, or false, and change nothing but THE TEXT, which a call that reads it empties": each
 * on an object of its own, beside a twin on which it is not made; then all that both can tell is compared.
 */
public final class RefusedTest {
    private static final Due D = new Due();
    private static final int MIN = Integer.MIN_VALUE;
    private static final int MAX = Integer.MAX_VALUE;
    private static final String NONE = "-1";
    private static final String FALSE = "false";

    public static void main(String[] args) {
        ofPiles();
        ofGames();
        ofWins();
        ofHeaps();
        ofHeirs();
        ofKept();
        withoutNumbers();
        lookingOn();
        telling();
        D.close("RefusedTest");
    }

    /** In the midst of all: MOVES made, one put back, END 1, something kept, a ROW, a text, likes and WORTHS told. */
    private static AllAboveIt midst() {
        AllAboveIt x = Due.piled("5:3r;4:7^0;3:1;2:6^2;1:3r;0:3^4;1:3;1:3");
        x.sheet(2, 8, 1, 1);
        x.likes(1, 0);
        x.move(0);
        x.keep(1);
        x.move(14);
        x.move(6);
        x.ends(1);
        x.limits();
        Due.write(x, "7:7^0");
        return x;
    }

    /** All that an object can tell, by calls that may change it: what is told last does not matter any more. */
    private static String told(AllAboveIt x) {
        StringBuilder all = new StringBuilder();
        for (int what = 0; what < 8; what++) {
            all.append(x.count(what)).append(' ');
        }
        all.append(Due.told(x));
        for (int i = 0; i < x.count(0); i++) {
            for (int what = 0; what < 6; what++) {
                all.append(' ').append(x.thing(i, what));
            }
        }
        all.append(" taken ").append(x.taken()).append(Due.told(x));
        all.append(" parrots ").append(x.parrots()).append(Due.told(x));
        all.append(" best ").append(x.best()).append(Due.told(x));
        all.append(" wins ").append(x.wins()).append(Due.told(x));
        all.append(" states ").append(x.states()).append(Due.told(x));
        all.append(" value ").append(x.value()).append(Due.told(x));
        for (int k = x.count(2); k >= 0; k--) {
            all.append(" undo ").append(x.undo()).append(' ').append(x.count(1)).append(' ').append(x.count(4));
        }
        for (int i = 0; i < 3; i++) {
            all.append(" again ").append(x.again(i)).append(' ').append(x.count(1)).append(' ').append(x.count(2))
                .append(' ').append(x.count(5)).append(' ').append(x.taken());
        }
        all.append(" piles ").append(x.piles()).append(' ').append(x.count(0));
        return all.toString();
    }

    private static void refused(String call, String want, Function<AllAboveIt, Object> made) {
        AllAboveIt x = midst();
        D.due(call, String.valueOf(made.apply(x)), want);
        D.due(call + ": what is told then", told(x), told(midst()));
    }

    private static void throwing(String call, Consumer<AllAboveIt> made) {
        AllAboveIt x = midst();
        boolean thrown = false;
        try {
            made.accept(x);
        } catch (NoSuchElementException e) {
            thrown = true;
        }
        D.due(call + " throws", thrown, true);
        D.due(call + ": what is told then", told(x), told(midst()));
    }

    private static void ofPiles() {
        AllAboveIt full = midst();
        AllAboveIt twin = midst();
        Due.write(full, "z".repeat(77));
        Due.write(twin, "z".repeat(77));
        D.due("sign behind 77", full.sign(0), -1);
        D.due("sign behind 77: what is told then", told(full), told(twin));
        for (int n : new int[] {-1, 6, 80, MIN, MAX}) {
            refused("end(" + n + ")", FALSE, x -> x.end(n));
        }
        for (int v : new int[] {-1, 2, MIN, MAX}) {
            refused("ends(" + v + ")", NONE, x -> x.ends(v));
        }
        refused("sheet(4, 2, 7, 7)", NONE, x -> x.sheet(4, 2, 7, 7));
        refused("sheet(-1, 2, 7, 7)", NONE, x -> x.sheet(-1, 2, 7, 7));
        refused("sheet(0, 15, 7, 7)", NONE, x -> x.sheet(0, 15, 7, 7));
        refused("sheet(3, 15, 7, 7)", NONE, x -> x.sheet(3, 15, 7, 7));
        for (int i : new int[] {-1, 8, 14, MIN, MAX}) {
            throwing("thing(" + i + ", 0)", x -> x.thing(i, 0));
        }
        throwing("thing(0, 6)", x -> x.thing(0, 6));
        throwing("thing(0, -1)", x -> x.thing(0, -1));
        for (String text : new String[] {"z", "1:3;1", "1:3;1:3r", "1:3^8", "1:3;1:3;1:3;1:3;1:3;1:3;1:3"}) {
            AllAboveIt x = midst();
            AllAboveIt y = midst();
            D.due("piles of '" + text + "' is refused", Due.piles(x, text) < 0, true);
            y.end(0);
            D.due("piles of '" + text + "': what is told then", told(x), told(y));
        }
    }

    private static void ofGames() {
        for (int heir : new int[] {-1, 3, MIN, MAX}) {
            refused("may(" + heir + ")", NONE, x -> x.may(heir));
        }
        for (int move : new int[] {-1, 8, 13, 22, 27, 28, MIN, MAX}) {
            refused("move(" + move + ")", NONE, x -> x.move(move));
        }
        for (int n : new int[] {-1, 16, MIN, MAX}) {
            refused("judge(" + n + ", 0, 0, 0)", NONE, x -> x.judge(n, 0, 0, 0));
        }
        AllAboveIt x = midst();
        AllAboveIt y = midst();
        x.begin();
        y.begin();
        D.due("undo() of none", x.undo(), -1);
        D.due("undo() of none: what is told then", told(x), told(y));
    }

    private static void ofWins() {
        for (int v : new int[] {-1, 2, MIN, MAX}) {
            refused("would(" + v + ", 0)", NONE, x -> x.would(v, 0));
            refused("would(0, " + v + ")", NONE, x -> x.would(0, v));
        }
        for (int n : new int[] {-1, 6, MIN, MAX}) {
            refused("lines(" + n + ")", NONE, x -> x.lines(n));
        }
        for (int heir : new int[] {-1, 3, MIN, MAX}) {
            refused("tempo(" + heir + ")", NONE, x -> x.tempo(heir));
        }
    }

    private static void ofHeaps() {
        for (int things : new int[] {-1, 256, 1 << 14, MIN, MAX}) {
            refused("alone(" + things + ")", NONE, x -> x.alone(things));
            refused("gets(0, " + things + ")", NONE, x -> x.gets(0, things));
        }
        for (int i : new int[] {-1, 8, 14, MIN, MAX}) {
            refused("heap(" + i + ")", NONE, x -> x.heap(i));
            refused("alike(" + i + ", 0)", NONE, x -> x.alike(i, 0));
            refused("alike(0, " + i + ")", NONE, x -> x.alike(0, i));
        }
        for (int v : new int[] {-1, 32, MIN, MAX}) {
            refused("make(" + v + ")", NONE, x -> x.make(v));
        }
        refused("wall(8, 0, 0, 0)", NONE, x -> x.wall(8, 0, 0, 0));
        refused("wall(1, 2, 0, 0)", NONE, x -> x.wall(1, 2, 0, 0));
        refused("wall(1, 1, 1, -1)", NONE, x -> x.wall(1, 1, 1, -1));
    }

    private static void ofHeirs() {
        for (int heir : new int[] {-1, 3, MIN, MAX}) {
            refused("likes(" + heir + ", 0)", FALSE, x -> x.likes(heir, 0));
            refused("likes(0, " + heir + ")", FALSE, x -> x.likes(0, heir));
            refused("parrot(" + heir + ")", NONE, x -> x.parrot(heir));
            refused("out(" + heir + ")", NONE, x -> x.out(heir));
        }
        for (int heir = 0; heir < 3; heir++) {
            int same = heir;
            refused("likes(" + heir + ", " + heir + ")", FALSE, x -> x.likes(same, same));
        }
        for (int v : new int[] {-1, 2, MIN, MAX}) {
            refused("gets(" + v + ", 1)", NONE, x -> x.gets(v, 1));
            refused("notary(" + v + ", 5)", NONE, x -> x.notary(v, 5));
        }
        for (int c : new int[] {-1, 11, MIN, MAX}) {
            refused("notary(0, " + c + ")", NONE, x -> x.notary(0, c));
        }
    }

    private static void ofKept() {
        for (int i : new int[] {-1, 3, MIN, MAX}) {
            refused("keep(" + i + ")", FALSE, x -> x.keep(i));
            refused("again(" + i + ")", FALSE, x -> x.again(i));
        }
        refused("again(0), nothing kept", FALSE, x -> x.again(0));
        refused("again(2), nothing kept", FALSE, x -> x.again(2));
        for (int what : new int[] {-1, 8, MIN, MAX}) {
            refused("count(" + what + ")", NONE, x -> x.count(what));
        }
        for (int i : new int[] {-1, 2, 19, 20, MIN, MAX}) {
            throwing("row(" + i + ")", x -> x.row(i));
        }
    }

    /** Calls that answer -2 or -3 without a number: they tell no ROW, and change nothing either. */
    private static void withoutNumbers() {
        refused("sheet(2, -1, 7, 7)", "-2", x -> x.sheet(2, -1, 7, 7));
        refused("move(6)", "-2", x -> x.move(6));
        refused("move(14)", "-2", x -> x.move(14));
        refused("heap(6)", "-2", x -> x.heap(6));
        refused("alike(6, 7)", "-2", x -> x.alike(6, 7));
        refused("make(31)", "-2", x -> x.make(31));
        refused("joined()", "-2", AllAboveIt::joined);
        refused("mean()", "-3", AllAboveIt::mean);
        refused("notary(0, 5)", "-3", x -> x.notary(0, 5));
        refused("change()", "-3", AllAboveIt::change);
        refused("single()", "-3", AllAboveIt::single);
    }

    /** Calls that only look, and tell no ROW, change nothing, whatever they answer. */
    private static void lookingOn() {
        refused("would(1, 1)", String.valueOf(midst().would(1, 1)), x -> x.would(1, 1));
        refused("lines(5)", String.valueOf(midst().lines(5)), x -> x.lines(5));
        refused("alone(255)", String.valueOf(midst().alone(255)), x -> x.alone(255));
        refused("gets(1, 255)", String.valueOf(midst().gets(1, 255)), x -> x.gets(1, 255));
        refused("out(0)", String.valueOf(midst().out(0)), x -> x.out(0));
        refused("out(1)", String.valueOf(midst().out(1)), x -> x.out(1));
        refused("out(2)", String.valueOf(midst().out(2)), x -> x.out(2));
        refused("may(2)", String.valueOf(midst().may(2)), x -> x.may(2));
        refused("heap(0)", String.valueOf(midst().heap(0)), x -> x.heap(0));
        refused("alike(4, 2)", String.valueOf(midst().alike(4, 2)), x -> x.alike(4, 2));
    }

    /** Calls that only look, and tell a ROW, change nothing but it. */
    private static void telling() {
        only("judge(3, 0, 0, 0)", x -> x.judge(3, 0, 0, 0));
        only("taken()", AllAboveIt::taken);
        only("wins()", AllAboveIt::wins);
        only("soon()", AllAboveIt::soon);
        only("leave()", AllAboveIt::leave);
        only("states()", AllAboveIt::states);
        only("forced()", AllAboveIt::forced);
        only("tempo(2)", x -> x.tempo(2));
        only("value()", AllAboveIt::value);
        only("heaps()", AllAboveIt::heaps);
        only("wall(7, 6, 5, 4)", x -> x.wall(7, 6, 5, 4));
        only("best()", AllAboveIt::best);
        only("greedy()", AllAboveIt::greedy);
        only("limits()", AllAboveIt::limits);
        only("parrot(2)", x -> x.parrot(2));
        only("parrots()", AllAboveIt::parrots);
    }

    private static void only(String call, Consumer<AllAboveIt> made) {
        AllAboveIt x = midst();
        made.accept(x);
        x.limits();
        D.due(call + ": what is told then", told(x), told(midst()));
    }
}
