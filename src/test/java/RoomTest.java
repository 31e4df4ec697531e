import java.lang.reflect.Array;
import java.lang.reflect.Field;
import java.lang.reflect.Modifier;
import java.util.IdentityHashMap;
import java.util.Map;

/**
 * All that a run makes has to fit in one room: some 600,000 objects and arrays, 7.3 million fields and
 * elements. What an object holds is counted ahead of each telling of THINGS, which makes its rows anew, and at
 * the end: nothing else is ever made anew, so the sum is what the run made, or a little more.
 */
public final class RoomTest {
    private static final Due D = new Due();
    private static final long MOST_OBJECTS = 600_000;
    private static final long MOST_ELEMENTS = 7_300_000;

    public static void main(String[] args) throws IllegalAccessException {
        oneByOne();
        manyCalls();
        D.close("RoomTest");
    }

    /** The dearest way: fourteen THINGS told one by one, every row used each time. */
    private static void oneByOne() throws IllegalAccessException {
        AllAboveIt x = new AllAboveIt();
        long objects = 0;
        long elements = 0;
        for (int i = 0; i < 14; i++) {
            Due.piles(x, i < 2 ? "1:7r" : "1:7");
            everything(x);
            long[] held = held(x);
            objects += held[0];
            elements += held[1];
        }
        D.due("objects: " + objects, objects < MOST_OBJECTS / 10, true);
        D.due("elements: " + elements, elements < MOST_ELEMENTS / 4, true);
    }

    /** Calls once more make nothing more. */
    private static void manyCalls() throws IllegalAccessException {
        AllAboveIt x = Due.piled("1:7;1:3;1:5^0;1:7;1:7;1:7^1;1:7;1:7");
        everything(x);
        long[] held = held(x);
        long before = allocated();
        for (int k = 0; k < 20; k++) {
            x.sheet(2, 8, k, 1);
            x.likes(0, 1 + k % 2);
            x.ends(k & 1);
            x.move(k % 8);
            everything(x);
            x.begin();
        }
        long bytes = allocated() - before;
        D.due("bytes made by twenty more rounds: " + bytes, bytes < 20_000, true);
        D.due("objects", held(x)[0], held[0]);
        D.due("elements", held(x)[1], held[1]);
    }

    private static long allocated() {
        return ((com.sun.management.ThreadMXBean) java.lang.management.ManagementFactory.getThreadMXBean())
            .getThreadAllocatedBytes(Thread.currentThread().getId());
    }

    private static void everything(AllAboveIt x) {
        for (int k = 0; k < 4; k++) {
            x.would(k & 1, k >> 1);
            x.gets(k & 1, k);
            x.parrot(k);
            x.out(k);
            x.keep(k);
        }
        x.wins();
        x.soon();
        x.leave();
        x.states();
        x.lines(3);
        x.forced();
        x.tempo(0);
        x.value();
        x.heaps();
        x.make(0);
        x.joined();
        x.alike(0, 0);
        x.wall(7, 6, 5, 4);
        x.best();
        x.greedy();
        x.limits();
        x.mean();
        x.parrots();
        x.notary(0, 5);
        x.change();
        x.single();
        x.judge(5, 1, 2, 3);
        x.taken();
    }

    /** Objects and arrays, fields and elements that an object holds. */
    private static long[] held(Object from) throws IllegalAccessException {
        Map<Object, Boolean> seen = new IdentityHashMap<>();
        long elements = walk(from, seen);
        return new long[] {seen.size(), elements};
    }

    private static long walk(Object o, Map<Object, Boolean> seen) throws IllegalAccessException {
        if (o == null || seen.put(o, true) != null) {
            return 0;
        }
        long sum = 0;
        if (o.getClass().isArray()) {
            sum = Array.getLength(o);
            if (o instanceof Object[] all) {
                for (Object one : all) {
                    sum += walk(one, seen);
                }
            }
            return sum;
        }
        for (Field f : o.getClass().getDeclaredFields()) {
            if (!Modifier.isStatic(f.getModifiers())) {
                sum++;
                if (!f.getType().isPrimitive()) {
                    f.setAccessible(true);
                    sum += walk(f.get(o), seen);
                }
            }
        }
        return sum;
    }
}
