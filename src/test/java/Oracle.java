import java.math.BigInteger;
import java.util.ArrayList;
import java.util.HashMap;
import java.util.HashSet;
import java.util.List;
import java.util.Map;
import java.util.NoSuchElementException;
import java.util.Set;
import java.util.TreeSet;

/**
 * The document once more, as slowly and plainly as it reads, over sets and fractions: what the class
 * answers is compared with it. Nothing of it stands in the class.
 */
final class Oracle {
    record Thing(int heirs, TreeSet<Integer> on, boolean back) { }

    record State(TreeSet<Integer> there, TreeSet<Integer> put) { }

    record Fraction(BigInteger up, BigInteger low) {
        static Fraction of(long up, long low) {
            return lowest(BigInteger.valueOf(up), BigInteger.valueOf(low));
        }

        static Fraction lowest(BigInteger up, BigInteger low) {
            BigInteger g = up.gcd(low).max(BigInteger.ONE);
            return new Fraction(up.divide(g), low.divide(g));
        }

        Fraction plus(Fraction o) {
            return lowest(up.multiply(o.low).add(o.up.multiply(low)), low.multiply(o.low));
        }

        Fraction times(Fraction o) {
            return lowest(up.multiply(o.up), low.multiply(o.low));
        }

        Fraction minus(Fraction o) {
            return plus(new Fraction(o.up.negate(), o.low));
        }

        boolean above(Fraction o) {
            return up.multiply(o.low).compareTo(o.up.multiply(low)) > 0;
        }
    }

    record Kept(State state, List<State> history, List<Integer> moves, int end) { }

    static final class Wrong extends RuntimeException {
        private static final long serialVersionUID = 1L;
        final int at;

        Wrong(int at) {
            this.at = at;
        }
    }

    final StringBuilder text = new StringBuilder();
    List<Thing> things = new ArrayList<>();
    List<Integer> worth = new ArrayList<>();
    State state = new State(new TreeSet<>(), new TreeSet<>());
    List<State> history = new ArrayList<>();
    List<Integer> moves = new ArrayList<>();
    int end = 0;
    /** MOVES from this number on put back; a pile with THINGS laid on it may have more than fourteen. */
    int puttingBack = 14;
    final int[] first = {1, 2, 0};
    final Kept[] kept = new Kept[3];
    List<Long> row = new ArrayList<>();

    /** A new one with the THINGS of a text. */
    static Oracle piled(String all) {
        Oracle o = new Oracle();
        o.text.append(all);
        if (o.piles() < 0) {
            throw new IllegalStateException("the test's own text is wrong: " + all);
        }
        return o;
    }

    /** THINGS on none, of HEIRS 1, 2, 3 as the digits of a number to the base of 3 say; null, if these do not rise. */
    static String onNone(int[] worth, int heirs) {
        StringBuilder text = new StringBuilder();
        int last = 0;
        int rest = heirs;
        for (int i = 0; i < worth.length; i++) {
            if (rest % 3 < last) {
                return null;
            }
            last = rest % 3;
            text.append(i == 0 ? "" : ";").append(worth[i]).append(':').append(1 + last);
            rest /= 3;
        }
        return text.toString();
    }

    /** THINGS by chance: on none, or on one or two ahead; of HEIRS 0, 1 or both most of the time. */
    static String someText(java.util.Random random, int things, int wide) {
        StringBuilder text = new StringBuilder();
        for (int i = 0; i < things; i++) {
            int heirs = random.nextInt(6) == 0 ? 4 + random.nextInt(4) : 1 + random.nextInt(3);
            text.append(i == 0 ? "" : ";").append(random.nextInt(10)).append(':').append(heirs);
            if (i > 0 && random.nextInt(wide) == 0) {
                int on = random.nextInt(i);
                text.append('^').append(on);
                if (on + 1 < i && random.nextInt(3) == 0) {
                    text.append(',').append(on + 1);
                }
            }
        }
        return text.toString();
    }

    private void tell(long... numbers) {
        row = new ArrayList<>();
        for (long n : numbers) {
            row.add(n);
        }
    }

    static int bits(Set<Integer> some) {
        int b = 0;
        for (int i : some) {
            b |= 1 << i;
        }
        return b;
    }

    static TreeSet<Integer> set(int bits) {
        TreeSet<Integer> some = new TreeSet<>();
        for (int i = 0; i < 32; i++) {
            if ((bits >> i & 1) != 0) {
                some.add(i);
            }
        }
        return some;
    }

    // ---- the piles

    int sign(int v) {
        if (text.length() > 76) {
            return -1;
        }
        text.append((char) (v >>> 24)).append((char) (v >> 16 & 255)).append((char) (v >> 8 & 255))
            .append((char) (v & 255));
        return text.length();
    }

    boolean end(int n) {
        if (n < 0 || n > text.length()) {
            return false;
        }
        text.setLength(n);
        return true;
    }

    /** Reads by going down the grammar; the end of what is read counts as a sign of its own (0xFFFF). */
    private final class Descent {
        final String s;
        final boolean cut;
        int p = 0;
        final List<Thing> found = new ArrayList<>();
        final List<Integer> worths = new ArrayList<>();

        Descent(String all) {
            cut = all.length() > 76;
            s = cut ? all.substring(0, 76) : all;
        }

        char look() {
            return p < s.length() ? s.charAt(p) : '\uFFFF';
        }

        boolean atCut() {
            return cut && p >= 76;
        }

        boolean digit() {
            return look() >= '0' && look() <= '9';
        }

        void refuseUnless(boolean so) {
            if (!so) {
                throw new Wrong(p);
            }
        }

        void all() {
            if (s.isEmpty()) {
                return;
            }
            line();
            while (look() == ';') {
                p++;
                line();
            }
            refuseUnless(p == s.length() && !cut);
        }

        void line() {
            int me = things.size() + found.size();
            refuseUnless(!atCut() && digit() && me < 14);
            int w = look() - '0';
            p++;
            refuseUnless(!atCut() && look() == ':');
            p++;
            refuseUnless(!atCut() && look() >= '1' && look() <= '7');
            int heirs = look() - '0';
            p++;
            TreeSet<Integer> on = new TreeSet<>();
            if (look() == '^') {
                do {
                    p++;
                    number(on, me);
                } while (look() == ',');
            }
            boolean back = look() == 'r';
            if (back) {
                long backs = java.util.stream.Stream.concat(things.stream(), found.stream())
                    .filter(Thing::back).count();
                refuseUnless(backs < 2);
                p++;
            }
            refuseUnless(look() == ';' || p == s.length());
            found.add(new Thing(heirs, on, back));
            worths.add(w);
        }

        void number(TreeSet<Integer> on, int me) {
            refuseUnless(digit());
            int from = p;
            p++;
            if (digit()) {
                p++;
            }
            int n = Integer.parseInt(s.substring(from, p));
            if (n >= me || !on.isEmpty() && n <= on.last()) {
                throw new Wrong(p - 1);
            }
            on.add(n);
        }
    }

    int piles() {
        Descent d = new Descent(text.toString());
        text.setLength(0);
        try {
            d.all();
        } catch (Wrong e) {
            return -1 - e.at;
        }
        things.addAll(d.found);
        worth.addAll(d.worths);
        if (!d.found.isEmpty()) {
            kept[0] = null;
            kept[1] = null;
            kept[2] = null;
        }
        begin();
        return d.found.size();
    }

    TreeSet<Integer> everything() {
        return set((1 << things.size()) - 1);
    }

    boolean above(int upper, int lower) {
        for (int on : things.get(upper).on) {
            if (on == lower || above(on, lower)) {
                return true;
            }
        }
        return false;
    }

    TreeSet<Integer> allAbove(int i) {
        TreeSet<Integer> some = new TreeSet<>();
        for (int j = 0; j < things.size(); j++) {
            if (above(j, i)) {
                some.add(j);
            }
        }
        return some;
    }

    int thing(int i, int what) {
        if (i < 0 || i >= things.size()) {
            throw new NoSuchElementException();
        }
        Thing t = things.get(i);
        return switch (what) {
            case 0 -> worth.get(i);
            case 1 -> t.heirs;
            case 2 -> bits(t.on);
            case 3 -> bits(allAbove(i));
            case 4 -> t.back ? 1 : 0;
            case 5 -> state.there.contains(i) ? 1 : 0;
            default -> throw new NoSuchElementException();
        };
    }

    int ends(int v) {
        if (v != 0 && v != 1) {
            return -1;
        }
        int was = end;
        end = v;
        return was;
    }

    int sheet(int kind, int n, int f, int step) {
        if (kind < 0 || kind > 3 || n > 14) {
            return -1;
        }
        if (kind != 3 && n < 0) {
            return -2;
        }
        int sum = 0;
        int entry = f;
        for (int i = 0; i < things.size(); i++) {
            int w = 0;
            if (kind != 3 && i < n) {
                w = kind == 0 ? (byte) entry : kind == 1 ? (short) entry : entry;
                w = w < 0 ? 0 : w > 9 ? 9 : w;
            }
            entry += step;
            worth.set(i, w);
            sum += w;
        }
        return kind == 3 ? -3 : sum;
    }

    // ---- a game

    /** MOVES of an HEIR; heir 3 may take all. */
    TreeSet<Integer> movesOf(State s, int heir) {
        TreeSet<Integer> m = new TreeSet<>();
        for (int i = 0; i < things.size(); i++) {
            Thing t = things.get(i);
            if (s.there.contains(i)) {
                if (heir == 3 || (t.heirs >> heir & 1) != 0) {
                    m.add(i);
                }
            } else if (t.back && !s.put.contains(i) && s.there.containsAll(t.on)) {
                m.add(puttingBack + i);
            }
        }
        return m;
    }

    State after(State s, int move) {
        TreeSet<Integer> there = new TreeSet<>(s.there);
        TreeSet<Integer> put = new TreeSet<>(s.put);
        if (move < puttingBack) {
            there.remove(move);
            there.removeAll(allAbove(move));
        } else {
            there.add(move - puttingBack);
            put.add(move - puttingBack);
        }
        return new State(there, put);
    }

    TreeSet<Integer> gone(State s, State t) {
        TreeSet<Integer> g = new TreeSet<>(s.there);
        g.removeAll(t.there);
        return g;
    }

    int sum(Set<Integer> some) {
        int sum = 0;
        for (int i : some) {
            sum += worth.get(i);
        }
        return sum;
    }

    int may(int heir) {
        return heir < 0 || heir > 2 ? -1 : bits(movesOf(state, heir));
    }

    int turn() {
        return history.size() % 2;
    }

    int move(int move) {
        if (move < 0 || move > 27 || move % 14 >= things.size()) {
            return -1;
        }
        if (!movesOf(state, turn()).contains(move)) {
            return -2;
        }
        State next = after(state, move);
        int g = bits(gone(state, next));
        history.add(state);
        moves.add(move);
        state = next;
        return g;
    }

    int undo() {
        if (history.isEmpty()) {
            return -1;
        }
        state = history.remove(history.size() - 1);
        moves.remove(moves.size() - 1);
        return history.size();
    }

    int begin() {
        int made = history.size();
        state = new State(everything(), new TreeSet<>());
        history = new ArrayList<>();
        moves = new ArrayList<>();
        return made;
    }

    int judge(int n, int a, int b, int c) {
        if (n < 0 || n > 15) {
            return -1;
        }
        List<Integer> list = new ArrayList<>();
        for (int word : new int[] {a, b, c}) {
            for (int k = 0; k < 5; k++) {
                list.add(word >> 6 * k & 63);
            }
        }
        State s = new State(everything(), new TreeSet<>());
        int[] got = new int[2];
        int answer = -2;
        for (int k = 0; k < n && answer == -2; k++) {
            if (!movesOf(s, k % 2).contains(list.get(k))) {
                answer = k;
            } else {
                State t = after(s, list.get(k));
                got[k % 2] += sum(gone(s, t));
                s = t;
            }
        }
        tell(got[0], got[1]);
        return answer;
    }

    int taken() {
        int[] got = new int[2];
        State s = new State(everything(), new TreeSet<>());
        for (int k = 0; k < moves.size(); k++) {
            State t = after(s, moves.get(k));
            got[k % 2] += sum(gone(s, t));
            s = t;
        }
        tell(got[0], got[1]);
        return got[0] + got[1];
    }

    // ---- who wins

    private final Map<String, Object> memo = new HashMap<>();

    /** Whether an HEIR on turn wins. */
    boolean wins(State s, int heir, int by) {
        String key = "w" + s + heir + by;
        if (!memo.containsKey(key)) {
            TreeSet<Integer> m = movesOf(s, heir);
            boolean w = m.isEmpty() && by == 1;
            for (int move : m) {
                w |= !wins(after(s, move), 1 - heir, by);
            }
            memo.put(key, w);
        }
        return (Boolean) memo.get(key);
    }

    int wins() {
        int heir = turn();
        int b = 0;
        for (int move : movesOf(state, heir)) {
            if (!wins(after(state, move), 1 - heir, end)) {
                b |= 1 << move;
            }
        }
        tell(b);
        return wins(state, heir, end) ? heir : 1 - heir;
    }

    int would(int heir, int by) {
        if (heir < 0 || heir > 1 || by < 0 || by > 1) {
            return -1;
        }
        return wins(state, heir, by) ? heir : 1 - heir;
    }

    int soon(State s, int heir) {
        String key = "s" + s + heir + end;
        if (!memo.containsKey(key)) {
            TreeSet<Integer> m = movesOf(s, heir);
            List<Integer> lengths = new ArrayList<>();
            for (int move : m) {
                State t = after(s, move);
                if (!wins(s, heir, end) || !wins(t, 1 - heir, end)) {
                    lengths.add(1 + soon(t, 1 - heir));
                }
            }
            int length = lengths.isEmpty() ? 0
                : wins(s, heir, end) ? java.util.Collections.min(lengths) : java.util.Collections.max(lengths);
            memo.put(key, length);
        }
        return (Integer) memo.get(key);
    }

    int soon() {
        int heir = turn();
        long move = -1;
        for (int m : movesOf(state, heir).descendingSet()) {
            State t = after(state, m);
            boolean stays = wins(state, heir, end) != wins(t, 1 - heir, end);
            if (stays && 1 + soon(t, 1 - heir) == soon(state, heir)) {
                move = m;
            }
        }
        tell(move);
        return soon(state, heir);
    }

    int leave() {
        int heir = turn();
        if (wins(state, heir, end)) {
            tell(0);
            return heir;
        }
        boolean helps = !wins(state, 1 - heir, end);
        tell(helps ? 1 : 0);
        return helps ? heir : 1 - heir;
    }

    int states() {
        Set<String> seen = new HashSet<>();
        List<State> open = new ArrayList<>();
        List<Integer> who = new ArrayList<>();
        open.add(state);
        who.add(turn());
        seen.add(state.toString() + turn());
        int lost = 0;
        for (int k = 0; k < open.size(); k++) {
            State s = open.get(k);
            int heir = who.get(k);
            if (!wins(s, heir, end)) {
                lost++;
            }
            for (int move : movesOf(s, heir)) {
                State t = after(s, move);
                if (seen.add(t.toString() + (1 - heir))) {
                    open.add(t);
                    who.add(1 - heir);
                }
            }
        }
        tell(lost);
        return open.size();
    }

    long lines(State s, int heir, int n) {
        if (n == 0) {
            return 1;
        }
        long sum = 0;
        for (int move : movesOf(s, heir)) {
            sum += lines(after(s, move), 1 - heir, n - 1);
        }
        return sum;
    }

    long lines(int n) {
        return n < 0 || n > 5 ? -1 : lines(state, turn(), n);
    }

    int forced() {
        State s = state;
        int heir = turn();
        tell();
        while (movesOf(s, heir).size() == 1) {
            int move = movesOf(s, heir).first();
            row.add((long) move);
            s = after(s, move);
            heir = 1 - heir;
        }
        return row.size();
    }

    /** The most or the fewest MOVES of one HEIR, by trying all ways. */
    int tempo(State s, int heir, boolean most) {
        String key = "t" + s + heir + most;
        if (!memo.containsKey(key)) {
            int answer = -1;
            for (int move : movesOf(s, heir)) {
                if (move < 14) {
                    int next = 1 + tempo(after(s, move), heir, most);
                    if (answer < 0 || (most ? next > answer : next < answer)) {
                        answer = next;
                    }
                }
            }
            memo.put(key, Math.max(0, answer));
        }
        return (Integer) memo.get(key);
    }

    int tempo(int heir) {
        if (heir < 0 || heir > 2) {
            return -1;
        }
        tell(tempo(state, heir, false));
        return tempo(state, heir, true);
    }

    // ---- what heaps are worth

    int value(State s) {
        String key = "v" + s;
        if (!memo.containsKey(key)) {
            Set<Integer> seen = new HashSet<>();
            for (int move : movesOf(s, 3)) {
                seen.add(value(after(s, move)));
            }
            int v = 0;
            while (seen.contains(v)) {
                v++;
            }
            memo.put(key, v);
        }
        return (Integer) memo.get(key);
    }

    int value() {
        int b = 0;
        for (int move : movesOf(state, 3)) {
            b |= 1 << value(after(state, move));
        }
        tell(b);
        return value(state);
    }

    State just(Set<Integer> some) {
        TreeSet<Integer> put = new TreeSet<>();
        for (int i = 0; i < things.size(); i++) {
            if (things.get(i).back) {
                put.add(i);
            }
        }
        return new State(new TreeSet<>(some), put);
    }

    int alone(int some) {
        return everything().containsAll(set(some)) ? value(just(set(some))) : -1;
    }

    void spread(int i, TreeSet<Integer> heap) {
        if (state.there.contains(i) && heap.add(i)) {
            for (int j : state.there) {
                if (things.get(i).on.contains(j) || things.get(j).on.contains(i)) {
                    spread(j, heap);
                }
            }
        }
    }

    TreeSet<Integer> heapOf(int i) {
        TreeSet<Integer> heap = new TreeSet<>();
        spread(i, heap);
        return heap;
    }

    int heap(int i) {
        if (i < 0 || i >= things.size()) {
            return -1;
        }
        return state.there.contains(i) ? bits(heapOf(i)) : -2;
    }

    int heaps() {
        tell();
        for (int i : state.there) {
            if (heapOf(i).first() == i) {
                row.add((long) value(just(heapOf(i))));
            }
        }
        return row.size();
    }

    int make(int v) {
        if (v < 0 || v > 31) {
            return -1;
        }
        for (int move : movesOf(state, 3)) {
            if (value(after(state, move)) == v) {
                return move;
            }
        }
        return -2;
    }

    int tree(int i) {
        int x = 0;
        for (int j : state.there) {
            if (things.get(j).on.contains(i)) {
                x ^= tree(j);
            }
        }
        return x + 1;
    }

    boolean someBack() {
        return things.stream().anyMatch(Thing::back);
    }

    int joined() {
        if (state.there.isEmpty()) {
            return 0;
        }
        int x = 0;
        for (int i : state.there) {
            TreeSet<Integer> on = new TreeSet<>(things.get(i).on);
            on.retainAll(state.there);
            if (on.size() > 1 || someBack()) {
                return -2;
            }
            if (on.isEmpty()) {
                x ^= tree(i);
            }
        }
        return x;
    }

    /** Tries all orders of the second HEAP against the first as it is. */
    boolean pairing(List<Integer> a, List<Integer> b, List<Integer> chosen) {
        if (chosen.size() == a.size()) {
            for (int i = 0; i < a.size(); i++) {
                for (int j = 0; j < a.size(); j++) {
                    boolean one = things.get(a.get(i)).on.contains(a.get(j));
                    boolean other = things.get(chosen.get(i)).on.contains(chosen.get(j));
                    if (one != other) {
                        return false;
                    }
                }
            }
            return true;
        }
        for (int t : b) {
            if (!chosen.contains(t)) {
                chosen.add(t);
                if (pairing(a, b, chosen)) {
                    return true;
                }
                chosen.remove(chosen.size() - 1);
            }
        }
        return false;
    }

    int alike(int i, int j) {
        if (i < 0 || j < 0 || i >= things.size() || j >= things.size()) {
            return -1;
        }
        if (!state.there.contains(i) || !state.there.contains(j)) {
            return -2;
        }
        List<Integer> a = new ArrayList<>(heapOf(i));
        List<Integer> b = new ArrayList<>(heapOf(j));
        if (a.size() > 6 || b.size() > 6) {
            return -3;
        }
        return a.size() == b.size() && pairing(a, b, new ArrayList<>()) ? 1 : 0;
    }

    /** Walls do not depend on the object: what is known of them is known for all. */
    private static final Map<String, Boolean> WALLS = new HashMap<>();

    static boolean wallWins(int[] rows) {
        String key = java.util.Arrays.toString(rows);
        if (!WALLS.containsKey(key)) {
            WALLS.put(key, rows[0] == 0 || wallStone(rows) != null);
        }
        return WALLS.get(key);
    }

    static int[] wallStone(int[] rows) {
        for (int r = 0; r < 4; r++) {
            for (int p = 0; p < rows[r]; p++) {
                int[] left = rows.clone();
                for (int q = r; q < 4; q++) {
                    left[q] = Math.min(left[q], p);
                }
                if (!wallWins(left)) {
                    return new int[] {r, p};
                }
            }
        }
        return null;
    }

    int wall(int a, int b, int c, int d) {
        int[] rows = {a, b, c, d};
        for (int r = 0; r < 4; r++) {
            if (rows[r] < 0 || rows[r] > 7 || r > 0 && rows[r] > rows[r - 1]) {
                return -1;
            }
        }
        int[] stone = wallStone(rows);
        tell(stone == null ? -1 : stone[0], stone == null ? -1 : stone[1]);
        return wallWins(rows) ? 1 : 0;
    }

    // ---- worths

    int best(State s, int heir) {
        String key = "b" + s + heir + worth;
        if (!memo.containsKey(key)) {
            int best = Integer.MIN_VALUE;
            for (int move : movesOf(s, heir)) {
                State t = after(s, move);
                best = Math.max(best, sum(gone(s, t)) - best(t, 1 - heir));
            }
            memo.put(key, best == Integer.MIN_VALUE ? 0 : best);
        }
        return (Integer) memo.get(key);
    }

    int best() {
        int heir = turn();
        long first = -1;
        for (int move : movesOf(state, heir).descendingSet()) {
            State t = after(state, move);
            if (sum(gone(state, t)) - best(t, 1 - heir) == best(state, heir)) {
                first = move;
            }
        }
        tell(first);
        return best(state, heir);
    }

    int gets(int heir, int some) {
        if (heir < 0 || heir > 1 || !everything().containsAll(set(some))) {
            return -1;
        }
        return best(just(set(some)), heir);
    }

    int greedy() {
        State s = state;
        int[] got = new int[2];
        int k = 0;
        while (true) {
            int most = -1;
            State next = null;
            for (int move : movesOf(s, (turn() + k) % 2)) {
                if (move < 14 && sum(gone(s, after(s, move))) > most) {
                    next = after(s, move);
                    most = sum(gone(s, next));
                }
            }
            if (next == null) {
                tell(got[0], got[1]);
                return k;
            }
            got[k % 2] += most;
            s = next;
            k++;
        }
    }

    int all(int heir) {
        TreeSet<Integer> some = new TreeSet<>();
        for (int i : state.there) {
            if ((things.get(i).heirs >> heir & 1) != 0) {
                some.add(i);
                some.addAll(allAbove(i));
            }
        }
        some.retainAll(state.there);
        return sum(some);
    }

    int limits() {
        tell(-all(1 - turn()), all(turn()));
        return row.get(0).equals(row.get(1)) ? 1 : 0;
    }

    Fraction mean(State s, int heir) {
        TreeSet<Integer> m = movesOf(s, heir);
        Fraction f = Fraction.of(0, 1);
        for (int move : m) {
            State t = after(s, move);
            Fraction more = Fraction.of(sum(gone(s, t)), 1).minus(mean(t, 1 - heir));
            f = f.plus(more.times(Fraction.of(1, m.size())));
        }
        return f;
    }

    int mean() {
        if (state.there.size() > 6 || someBack()) {
            return -3;
        }
        Fraction f = mean(state, turn());
        tell(f.up.longValueExact(), f.low.longValueExact());
        return 0;
    }

    // ---- three heirs

    boolean likes(int heir, int whom) {
        if (heir < 0 || heir > 2 || whom < 0 || whom > 2 || whom == heir) {
            return false;
        }
        first[heir] = whom;
        return true;
    }

    int good(int heir, int keeper) {
        return keeper == 3 ? 3 : keeper == first[heir] ? 2 : keeper == heir ? 0 : 1;
    }

    /** Who keeps it, when 'last' MOVED last; the MOVE goes into the list. */
    int keeper(State s, int heir, int last, List<Integer> chosen) {
        String key = "p" + s + heir + last + first[0] + first[1] + first[2];
        if (chosen == null && memo.containsKey(key)) {
            return (Integer) memo.get(key);
        }
        int best = -1;
        int by = -1;
        for (int move : movesOf(s, heir)) {
            int k = keeper(after(s, move), (heir + 1) % 3, heir, null);
            if (best < 0 || good(heir, k) > good(heir, best)) {
                best = k;
                by = move;
            }
        }
        if (chosen != null) {
            chosen.add(by);
        }
        memo.put(key, best < 0 ? last : best);
        return best < 0 ? last : best;
    }

    int parrot(int heir) {
        if (heir < 0 || heir > 2) {
            return -1;
        }
        List<Integer> chosen = new ArrayList<>();
        int k = keeper(state, heir, 3, chosen);
        tell(chosen.get(0));
        return k;
    }

    int parrots() {
        int a = keeper(state, 0, 3, null);
        int b = keeper(state, 1, 3, null);
        int c = keeper(state, 2, 3, null);
        tell(a, b, c);
        return Set.copyOf(List.of(a, b, c)).size();
    }

    int keeperOfTwo(State s, int heir, int other, int last) {
        String key = "q" + s + heir + other + last;
        if (!memo.containsKey(key)) {
            TreeSet<Integer> m = movesOf(s, heir);
            int k = m.isEmpty() ? last : heir;
            for (int move : m) {
                int next = keeperOfTwo(after(s, move), other, heir, heir);
                if (next != heir) {
                    k = next;
                }
            }
            memo.put(key, k);
        }
        return (Integer) memo.get(key);
    }

    int out(int heir) {
        if (heir < 0 || heir > 2) {
            return -1;
        }
        if (keeper(state, 0, 3, null) != heir) {
            return -3;
        }
        for (int gone = 0; gone < 3; gone++) {
            if (gone != heir) {
                int other = 3 - heir - gone;
                if (keeperOfTwo(state, Math.min(heir, other), Math.max(heir, other), 3) != heir) {
                    return gone;
                }
            }
        }
        return -2;
    }

    // ---- a notary

    Fraction chance(State s, int onTurn, int heir, int c) {
        String key = "n" + s + onTurn + heir + "," + c + end;
        if (!memo.containsKey(key)) {
            memo.put(key, newChance(s, onTurn, heir, c));
        }
        return (Fraction) memo.get(key);
    }

    private Fraction newChance(State s, int onTurn, int heir, int c) {
        TreeSet<Integer> m = movesOf(s, onTurn);
        if (m.isEmpty()) {
            int winner = end == 0 ? 1 - onTurn : onTurn;
            return Fraction.of(winner == heir ? 1 : 0, 1);
        }
        Fraction sum = Fraction.of(0, 1);
        Fraction chosen = null;
        for (int move : m) {
            Fraction f = chance(after(s, move), 1 - onTurn, heir, c);
            sum = sum.plus(f);
            if (chosen == null || (onTurn == heir ? f.above(chosen) : chosen.above(f))) {
                chosen = f;
            }
        }
        return chosen.times(Fraction.of(10 - c, 10)).plus(sum.times(Fraction.of(c, 10L * m.size())));
    }

    int notary(int heir, int c) {
        if (heir < 0 || heir > 1 || c < 0 || c > 10) {
            return -1;
        }
        if (state.there.size() > 6 || someBack()) {
            return -3;
        }
        Fraction f = chance(state, turn(), heir, c);
        tell(f.up.longValueExact(), f.low.longValueExact());
        return 0;
    }

    // ---- changes

    /** This pile, with a change made: a new Oracle whose STATE is the one changed. */
    private Oracle changed(int code) {
        Oracle o = new Oracle();
        o.things = new ArrayList<>(things);
        o.worth = new ArrayList<>(worth);
        o.state = state;
        o.end = end;
        o.puttingBack = 16;
        if (code < 14) {
            o.state = o.after(state, code);
            return o;
        }
        TreeSet<Integer> on = new TreeSet<>();
        if (code < 34) {
            on.add(code - 20);
        }
        o.things.add(new Thing(7, on, false));
        o.worth.add(0);
        TreeSet<Integer> there = new TreeSet<>(state.there);
        there.add(o.things.size() - 1);
        o.state = new State(there, state.put);
        return o;
    }

    /** Changes of what is THERE, of the first 'told' THINGS alone. */
    private TreeSet<Integer> codes(int told) {
        TreeSet<Integer> codes = new TreeSet<>();
        codes.add(34);
        for (int i : state.there) {
            if (i < told) {
                codes.add(i);
                codes.add(20 + i);
            }
        }
        return codes;
    }

    int change() {
        if (state.there.size() > 8 || someBack()) {
            return -3;
        }
        int heir = turn();
        boolean now = wins(state, heir, end);
        for (int c : codes(things.size())) {
            Oracle o = changed(c);
            if (o.wins(o.state, heir, end) != now) {
                tell(c);
                return 1;
            }
        }
        for (int c : codes(things.size())) {
            Oracle o = changed(c);
            for (int d : o.codes(things.size())) {
                Oracle p = o.changed(d);
                if (p.wins(p.state, heir, end) != now) {
                    tell(c, d);
                    return 2;
                }
            }
        }
        return -2;
    }

    int single() {
        if (state.there.size() > 8 || someBack()) {
            return -3;
        }
        int heir = turn();
        boolean now = wins(state, heir, end);
        long gone = 0;
        long laid = 0;
        long none = 0;
        for (int c : codes(things.size())) {
            Oracle o = changed(c);
            if (o.wins(o.state, heir, end) != now) {
                if (c == 34) {
                    none = 1;
                } else if (c < 14) {
                    gone |= 1L << c;
                } else {
                    laid |= 1L << c - 20;
                }
            }
        }
        tell(gone, laid, none);
        return Long.bitCount(gone) + Long.bitCount(laid) + (int) none;
    }

    // ---- kept

    boolean keep(int i) {
        if (i < 0 || i > 2) {
            return false;
        }
        kept[i] = new Kept(state, new ArrayList<>(history), new ArrayList<>(moves), end);
        return true;
    }

    boolean again(int i) {
        if (i < 0 || i > 2 || kept[i] == null) {
            return false;
        }
        state = kept[i].state;
        history = new ArrayList<>(kept[i].history);
        moves = new ArrayList<>(kept[i].moves);
        end = kept[i].end;
        return true;
    }

    int count(int what) {
        return switch (what) {
            case 0 -> things.size();
            case 1 -> bits(state.there);
            case 2 -> history.size();
            case 3 -> turn();
            case 4 -> bits(state.put);
            case 5 -> end;
            case 6 -> row.size();
            case 7 -> text.length();
            default -> -1;
        };
    }

    long row(int i) {
        if (i < 0 || i >= row.size()) {
            throw new NoSuchElementException();
        }
        return row.get(i);
    }

    /** What was known holds no more when THINGS were told. */
    void forget() {
        memo.clear();
    }
}
