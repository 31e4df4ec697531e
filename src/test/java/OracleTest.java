import java.util.NoSuchElementException;
import java.util.Random;

/** All promises: runs of calls by chance (the same each time), every answer as the Oracle's. */
public final class OracleTest {
    private static final Due D = new Due();
    private static final String[] NAMES = {"sign", "end", "piles", "thing", "ends", "sheet", "may", "move", "undo",
        "begin", "judge", "taken", "wins", "would", "soon", "leave", "states", "lines", "forced", "tempo", "value",
        "alone", "heap", "heaps", "make", "joined", "alike", "wall", "best", "gets", "greedy", "limits", "mean",
        "likes", "parrot", "parrots", "out", "notary", "change", "single", "keep", "again", "count", "row"};

    private final Random random;
    private final AllAboveIt x = new AllAboveIt();
    private final Oracle o = new Oracle();
    private final StringBuilder run = new StringBuilder();
    /** Up to fourteen THINGS, but so few side by side that Oracle is soon done with them. */
    private boolean tall = false;

    private OracleTest(long seed) {
        random = new Random(seed);
        run.append("seed ").append(seed);
    }

    public static void main(String[] args) {
        int from = args.length > 0 ? Integer.parseInt(args[0]) : 0;
        int runs = args.length > 1 ? Integer.parseInt(args[1]) : 600;
        for (int seed = from; seed < from + runs; seed++) {
            new OracleTest(seed).play();
        }
        D.close("OracleTest");
    }

    private void play() {
        tall = random.nextInt(5) == 0;
        int most = tall ? 10 + random.nextInt(5) : 2 + random.nextInt(random.nextInt(6) == 0 ? 9 : 6);
        boolean backs = random.nextInt(3) == 0;
        int share = random.nextInt(4);
        for (int k = 0; k < 250; k++) {
            if (o.things.size() < most && random.nextInt(o.things.isEmpty() ? 3 : 25) == 0) {
                write(pile(1 + random.nextInt(Math.min(6, most - o.things.size())), backs, share));
                call(2, 0, 0, 0, 0);
                o.forget();
            }
            if (random.nextInt(40) == 0) {
                write(spoilt(pile(1 + random.nextInt(3), backs, share)));
                int before = o.things.size();
                if (before < 9 || tall) {
                    call(2, 0, 0, 0, 0);
                    o.forget();
                }
            }
            int which = 3 + random.nextInt(NAMES.length - 3);
            if (random.nextInt(9) == 0) {
                call(7, someMove(), 0, 0, 0);
            } else if (o.may(o.turn()) == 0 && random.nextInt(3) == 0) {
                call(random.nextBoolean() ? 8 : 9, 0, 0, 0, 0);
            } else {
                call(which, number(which, 0), number(which, 1), number(which, 2), number(which, 3));
            }
        }
    }

    private int someMove() {
        int may = o.may(o.turn());
        int skip = may == 0 ? 0 : random.nextInt(Integer.bitCount(may));
        for (int m = 0; m < 28; m++) {
            if ((may >> m & 1) != 0 && skip-- == 0) {
                return m;
            }
        }
        return random.nextInt(30) - 1;
    }

    private static final int[] EXTREMES = {Integer.MIN_VALUE, Integer.MAX_VALUE, -2, 14, 28, 64, 1 << 14, 1 << 30};

    private int number(int which, int place) {
        if (random.nextInt(40) == 0) {
            return EXTREMES[random.nextInt(EXTREMES.length)];
        }
        switch (NAMES[which]) {
            case "sheet":
                int[] sheet = {random.nextInt(6) - 1, random.nextInt(18) - 2, random.nextInt(2000) - 300,
                    random.nextInt(3) == 0 ? random.nextInt() : random.nextInt(9) - 4};
                return random.nextInt(4) == 0 || place != 2 ? sheet[place] : random.nextInt(10);
            case "judge":
                return place == 0 ? random.nextInt(19) - 2 : game();
            case "alone":
                return random.nextInt(9) == 0 ? random.nextInt() : random.nextInt(1 << o.things.size());
            case "gets":
                return place == 0 ? random.nextInt(4) - 1
                    : random.nextInt(9) == 0 ? random.nextInt() : random.nextInt(1 << o.things.size());
            case "wall":
                return place == 0 ? random.nextInt(9) : random.nextInt(11 - 3 * place) - random.nextInt(2) / 2;
            case "make":
                return random.nextInt(9) == 0 ? random.nextInt(50) - 9 : random.nextInt(5);
            case "lines":
                return random.nextInt(8) - 1;
            case "move":
                return random.nextInt(31) - 1;
            case "notary":
                return place == 0 ? random.nextInt(4) - 1 : random.nextInt(13) - 1;
            case "thing":
            case "heap":
            case "alike":
                return random.nextInt(Math.max(1, o.things.size()) + 2) - 1;
            case "count":
                return random.nextInt(10) - 1;
            default:
                return random.nextInt(5) - 1;
        }
    }

    /** Five MOVES, most of which can be made if they are the first of a game. */
    private int game() {
        int word = 0;
        for (int k = 0; k < 5; k++) {
            word |= random.nextInt(random.nextInt(3) == 0 ? 30 : Math.max(1, o.things.size())) << 6 * k;
        }
        return random.nextInt(9) == 0 ? random.nextInt() : word;
    }

    private String pile(int lines, boolean backs, int share) {
        StringBuilder text = new StringBuilder();
        for (int k = 0; k < lines; k++) {
            int me = o.things.size() + k;
            text.append(k == 0 ? "" : ";").append(random.nextInt(10)).append(':');
            text.append(share == 0 ? 3 : share == 1 ? 7 : 1 + random.nextInt(7));
            char sign = '^';
            for (int i = 0; i < me; i++) {
                if (tall ? i >= me - 3 && random.nextInt(i == me - 1 ? 3 : 2) != 0 : random.nextInt(3 + share) == 0) {
                    text.append(sign).append(random.nextInt(5) == 0 && i < 10 ? "0" : "").append(i);
                    sign = ',';
                }
            }
            if (backs && random.nextInt(3) == 0) {
                text.append('r');
            }
        }
        return text.length() > 80 ? text.substring(0, 80) : text.toString();
    }

    private String spoilt(String text) {
        StringBuilder s = new StringBuilder(text);
        int p = random.nextInt(s.length());
        switch (random.nextInt(3)) {
            case 0:
                s.setCharAt(p, "0123456789:;^,r x".charAt(random.nextInt(17)));
                break;
            case 1:
                s.deleteCharAt(p);
                break;
            default:
                s.setLength(p);
        }
        return s.toString();
    }

    private void write(String text) {
        run.append("; '").append(text).append("'");
        call(1, 0, 0, 0, 0);
        for (int p = 0; p < text.length(); p += 4) {
            int v = 0;
            for (int k = 0; k < 4; k++) {
                v = v << 8 | (p + k < text.length() ? text.charAt(p + k) : 0);
            }
            call(0, v, 0, 0, 0);
        }
        call(1, text.length(), 0, 0, 0);
    }

    private void call(int which, int a, int b, int c, int d) {
        run.append("; ").append(NAMES[which]).append('(').append(a).append(',').append(b).append(',').append(c)
            .append(',').append(d).append(')');
        String got = answer(true, which, a, b, c, d);
        String want = answer(false, which, a, b, c, d);
        if (!got.equals(want)) {
            D.due(run.toString(), got, want);
            return;
        }
        D.due(NAMES[which], got, want);
        if (NAMES[which].equals("sign") || NAMES[which].equals("end")) {
            return;
        }
        for (int what = 0; what < 8; what++) {
            D.due(NAMES[which] + ": count(" + what + ")", x.count(what), o.count(what));
        }
        D.due(NAMES[which] + ": the row", Due.told(x), o.row.toString());
    }

    private String answer(boolean real, int which, int a, int b, int c, int d) {
        try {
            return which < 14 ? early(real, which, a, b, c, d)
                : which < 29 ? middle(real, which, a, b, c, d) : late(real, which, a, b);
        } catch (NoSuchElementException e) {
            return "none such";
        }
    }

    private String early(boolean real, int which, int a, int b, int c, int d) {
        return String.valueOf(switch (NAMES[which]) {
            case "sign" -> real ? x.sign(a) : o.sign(a);
            case "end" -> real ? x.end(a) : o.end(a);
            case "piles" -> real ? x.piles() : o.piles();
            case "thing" -> real ? x.thing(a, b) : o.thing(a, b);
            case "ends" -> real ? x.ends(a) : o.ends(a);
            case "sheet" -> real ? x.sheet(a, b, c, d) : o.sheet(a, b, c, d);
            case "may" -> real ? x.may(a) : o.may(a);
            case "move" -> real ? x.move(a) : o.move(a);
            case "undo" -> real ? x.undo() : o.undo();
            case "begin" -> real ? x.begin() : o.begin();
            case "judge" -> real ? x.judge(a, b, c, d) : o.judge(a, b, c, d);
            case "taken" -> real ? x.taken() : o.taken();
            case "wins" -> real ? x.wins() : o.wins();
            case "would" -> real ? x.would(a, b) : o.would(a, b);
            default -> throw new IllegalStateException(NAMES[which]);
        });
    }

    private String middle(boolean real, int which, int a, int b, int c, int d) {
        return String.valueOf(switch (NAMES[which]) {
            case "soon" -> real ? x.soon() : o.soon();
            case "leave" -> real ? x.leave() : o.leave();
            case "states" -> real ? x.states() : o.states();
            case "lines" -> real ? x.lines(a) : o.lines(a);
            case "forced" -> real ? x.forced() : o.forced();
            case "tempo" -> real ? x.tempo(a) : o.tempo(a);
            case "value" -> real ? x.value() : o.value();
            case "alone" -> real ? x.alone(a) : o.alone(a);
            case "heap" -> real ? x.heap(a) : o.heap(a);
            case "heaps" -> real ? x.heaps() : o.heaps();
            case "make" -> real ? x.make(a) : o.make(a);
            case "joined" -> real ? x.joined() : o.joined();
            case "alike" -> real ? x.alike(a, b) : o.alike(a, b);
            case "wall" -> real ? x.wall(a, b, c, d) : o.wall(a, b, c, d);
            case "best" -> real ? x.best() : o.best();
            default -> throw new IllegalStateException(NAMES[which]);
        });
    }

    private String late(boolean real, int which, int a, int b) {
        return String.valueOf(switch (NAMES[which]) {
            case "gets" -> real ? x.gets(a, b) : o.gets(a, b);
            case "greedy" -> real ? x.greedy() : o.greedy();
            case "limits" -> real ? x.limits() : o.limits();
            case "mean" -> real ? x.mean() : o.mean();
            case "likes" -> real ? x.likes(a, b) : o.likes(a, b);
            case "parrot" -> real ? x.parrot(a) : o.parrot(a);
            case "parrots" -> real ? x.parrots() : o.parrots();
            case "out" -> real ? x.out(a) : o.out(a);
            case "notary" -> real ? x.notary(a, b) : o.notary(a, b);
            case "change" -> real ? x.change() : o.change();
            case "single" -> real ? x.single() : o.single();
            case "keep" -> real ? x.keep(a) : o.keep(a);
            case "again" -> real ? x.again(a) : o.again(a);
            case "count" -> real ? x.count(a) : o.count(a);
            case "row" -> real ? x.row(a) : o.row(a);
            default -> throw new IllegalStateException(NAMES[which]);
        });
    }
}
