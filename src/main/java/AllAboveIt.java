import java.util.NoSuchElementException;

/**
 * Of what an aunt left piled heirs take in turn one thing and with it all that lies on it.
 * The words in capitals are those of the document (shared/DOC.md).
 */
public final class AllAboveIt {
    public static final int NONE = -1;

    // what calls answer for which the document has a number of its own
    private static final int CANNOT = -2;
    private static final int ALL_CAN = -2;
    private static final int TOO_MUCH = -3;
    private static final int MISSING = -3;
    private static final int KEEPS_IT_NOT = -3;
    private static final int MOST_THINGS = 14;
    private static final int MOST_BACK = 2;
    /** MOVES as the document numbers them: those from 14 on put a THING back. */
    private static final int ALL_MOVES = 2 * MOST_THINGS;
    /** Who may take all, as VALUE wants it: a fourth one beside the three HEIRS. */
    private static final int ANYBODY = 3;
    /** No game has more MOVES: 14 THINGS taken, 2 of them put back and taken again. */
    private static final int MOST_MOVES = 18;
    private static final int MOST_FORCED = 20;
    /** A recursion that follows a game goes no deeper; a game ends well ahead of it. */
    private static final int DEEPEST = 40;
    private static final int KEPT = 3;

    private final Text text = new Text();
    private final Pile pile = new Pile();
    private final Game game = new Game(pile);
    private final Game[] kept = new Game[KEPT];
    private final boolean[] isKept = new boolean[KEPT];
    private final Winners winners = new Winners(pile);
    private final Heaps heaping = new Heaps(pile);
    private final Wall stones = new Wall();
    private final Worths worths = new Worths(pile);
    private final Few few = new Few(pile);
    private final Parrots keepers = new Parrots(pile);
    private final Changes changes = new Changes(pile);
    private final long[] numbers = new long[MOST_FORCED];
    private int told = 0;

    public AllAboveIt() {
        for (int i = 0; i < KEPT; i++) {
            kept[i] = new Game(pile);
        }
    }

    // ---- the piles

    public int sign(int v) {
        return text.append(v);
    }

    public boolean end(int n) {
        return text.cut(n);
    }

    public int piles() {
        int lines = text.read(pile);
        if (lines > 0) {
            text.layOn(pile);
            for (int i = 0; i < KEPT; i++) {
                isKept[i] = false;
            }
        }
        if (lines >= 0) {
            game.start();
        }
        text.cut(0);
        return lines;
    }

    public int thing(int i, int what) throws NoSuchElementException {
        if (!pile.has(i) || what < 0 || what > 5) {
            throw new NoSuchElementException("no such thing");
        }
        switch (what) {
            case 0:
                return pile.worthAt(i);
            case 1:
                return pile.heirsOf(i);
            case 2:
                return pile.under(i);
            case 3:
                return pile.above(i);
            case 4:
                return pile.isBack(i) ? 1 : 0;
            default:
                return game.state() >> i & 1;
        }
    }

    public int ends(int v) {
        if (v < 0 || v > 1) {
            return NONE;
        }
        int was = game.ending();
        game.endBy(v);
        return was;
    }

    public int sheet(int kind, int n, int f, int step) {
        if (kind < 0 || kind > 3 || n > MOST_THINGS) {
            return NONE;
        }
        if (kind < 3 && n < 0) {
            return CANNOT;
        }
        int entries = kind == 3 ? 0 : n;
        for (int i = 0; i < pile.things(); i++) {
            pile.setWorth(i, i < entries ? entry(kind, f + i * step) : 0);
        }
        pile.addUp();
        worths.forget();
        return kind == 3 ? MISSING : pile.worthOf(pile.full());
    }

    private static int entry(int kind, int v) {
        int worth = kind == 0 ? (byte) v : kind == 1 ? (short) v : v;
        return Math.max(0, Math.min(9, worth));
    }

    // ---- a game

    public int may(int heir) {
        return heir < 0 || heir > 2 ? NONE : pile.named(pile.moves(game.state(), heir));
    }

    public int move(int move) {
        if (move < 0 || move >= ALL_MOVES || !pile.has(move % MOST_THINGS)) {
            return NONE;
        }
        int step = pile.step(move);
        return pile.can(game.state(), game.turn(), step) ? game.go(step) : CANNOT;
    }

    public int undo() {
        return game.goBack();
    }

    public int begin() {
        int made = game.made();
        game.start();
        return made;
    }

    public int judge(int n, int a, int b, int c) {
        if (n < 0 || n > 15) {
            return NONE;
        }
        tell(0, 0);
        int state = pile.first();
        for (int k = 0; k < n; k++) {
            int step = pile.step((k < 5 ? a : k < 10 ? b : c) >>> 6 * (k % 5) & 63);
            if (!pile.can(state, k & 1, step)) {
                return k;
            }
            int behind = pile.behind(state, step);
            numbers[k & 1] += pile.worthOf(state & ~behind);
            state = behind;
        }
        return ALL_CAN;
    }

    public int taken() {
        int first = game.takenBy(0);
        int second = game.takenBy(1);
        tell(first, second);
        return first + second;
    }

    // ---- who wins

    public int wins() {
        int heir = game.turn();
        tell(pile.named(winners.winningSteps(game.state(), heir, game.ending())));
        return winner(heir, game.ending());
    }

    public int would(int heir, int end) {
        if (heir < 0 || heir > 1 || end < 0 || end > 1) {
            return NONE;
        }
        return winner(heir, end);
    }

    /** Who wins, if an HEIR is on turn now. */
    private int winner(int heir, int end) {
        return winners.victory(game.state(), heir, end) ? heir : 1 - heir;
    }

    public int soon() {
        tell(pile.moveOf(winners.firstSoonest(game.state(), game.turn(), game.ending())));
        return winners.soonest(game.state(), game.turn(), game.ending());
    }

    public int leave() {
        int heir = game.turn();
        boolean wins = winner(heir, game.ending()) == heir;
        boolean wouldWin = winner(1 - heir, game.ending()) == heir;
        tell(!wins && wouldWin ? 1 : 0);
        return wins || wouldWin ? heir : 1 - heir;
    }

    public int states() {
        int reached = winners.reach(game.state(), game.turn(), game.ending());
        tell(winners.lostReached());
        return reached;
    }

    public long lines(int n) {
        return winners.games(game.state(), game.turn(), n);
    }

    public int forced() {
        int state = game.state();
        int heir = game.turn();
        told = 0;
        for (int k = 0; k < MOST_FORCED; k++) {
            int moves = pile.moves(state, heir);
            if (Integer.bitCount(moves) != 1) {
                break;
            }
            int step = Pile.lowest(moves);
            numbers[k] = pile.moveOf(step);
            told = k + 1;
            state = pile.behind(state, step);
            heir = 1 - heir;
        }
        return told;
    }

    public int tempo(int heir) {
        if (heir < 0 || heir > 2) {
            return NONE;
        }
        int takes = pile.takes(game.state(), heir);
        tell(Integer.bitCount(pile.lowestOf(takes)));
        return Integer.bitCount(takes);
    }

    // ---- what heaps are worth

    public int value() {
        tell(heaping.valuesBehind(game.state()));
        return heaping.valueOf(game.state());
    }

    public int alone(int things) {
        return (things & ~pile.full()) != 0 ? NONE : heaping.valueOf(pile.justThese(things));
    }

    public int heap(int i) {
        if (!pile.has(i)) {
            return NONE;
        }
        return isThere(i) ? pile.heapOf(i, game.there()) : CANNOT;
    }

    private boolean isThere(int i) {
        return (game.there() >> i & 1) != 0;
    }

    public int heaps() {
        int left = game.there();
        told = 0;
        for (int i = 0; i < pile.things(); i++) {
            if ((left >> i & 1) != 0) {
                int things = pile.heapOf(i, left);
                numbers[told] = heaping.valueOf(pile.justThese(things));
                told++;
                left &= ~things;
            }
        }
        return told;
    }

    public int make(int v) {
        if (v < 0 || v > 31) {
            return NONE;
        }
        int step = heaping.firstTo(game.state(), v);
        return step == NONE ? CANNOT : pile.moveOf(step);
    }

    public int joined() {
        if (game.there() == 0) {
            return 0;
        }
        return pile.backs() > 0 ? CANNOT : heaping.byJoining(game.there());
    }

    public int alike(int i, int j) {
        if (!pile.has(i) || !pile.has(j)) {
            return NONE;
        }
        if (!isThere(i) || !isThere(j)) {
            return CANNOT;
        }
        return heaping.compare(pile.heapOf(i, game.there()), pile.heapOf(j, game.there()));
    }

    public int wall(int a, int b, int c, int d) {
        if (a < 0 || a > 7 || b < 0 || b > a || c < 0 || c > b || d < 0 || d > c) {
            return NONE;
        }
        int rows = Wall.packed(a, b, c, d);
        int stone = stones.winningStone(rows);
        if (stone == NONE) {
            tell(NONE, NONE);
        } else {
            tell(stone / Wall.LONGEST, stone % Wall.LONGEST);
        }
        return stones.victory(rows) ? 1 : 0;
    }

    // ---- worths

    public int best() {
        tell(pile.moveOf(worths.firstBest(game.state(), game.turn())));
        return worths.more(game.state(), game.turn());
    }

    public int gets(int heir, int things) {
        if (heir < 0 || heir > 1 || (things & ~pile.full()) != 0) {
            return NONE;
        }
        return worths.more(pile.justThese(things), heir);
    }

    public int greedy() {
        int state = game.state();
        int moves = 0;
        tell(0, 0);
        for (int k = 0; k < MOST_MOVES; k++) {
            int step = worths.greediest(state, game.turn() + k & 1);
            if (step == NONE) {
                break;
            }
            int behind = pile.behind(state, step);
            numbers[k & 1] += pile.worthOf(state & ~behind);
            state = behind;
            moves++;
        }
        return moves;
    }

    public int limits() {
        int heir = game.turn();
        int most = pile.worthOf(pile.withAbove(pile.takes(game.state(), heir), game.there()));
        int others = pile.worthOf(pile.withAbove(pile.takes(game.state(), 1 - heir), game.there()));
        tell(-others, most);
        return -others == most ? 1 : 0;
    }

    public int mean() {
        if (isTooMuch(Few.MOST_BY_CHANCE)) {
            return TOO_MUCH;
        }
        tellFraction(few.meanMore(game.there(), game.turn()), Few.MEANS);
        return 0;
    }

    /** Whether more THINGS are THERE than a call looks at, or some are BACK. */
    private boolean isTooMuch(int most) {
        return Integer.bitCount(game.there()) > most || pile.backs() > 0;
    }

    // ---- three heirs

    public boolean likes(int heir, int first) {
        if (heir < 0 || heir > 2 || first < 0 || first > 2 || heir == first) {
            return false;
        }
        keepers.like(heir, first);
        return true;
    }

    public int parrot(int heir) {
        if (heir < 0 || heir > 2) {
            return NONE;
        }
        tell(pile.moveOf(keepers.firstStep(game.state(), heir)));
        return keepers.keeper(game.state(), heir);
    }

    public int parrots() {
        int first = keepers.keeper(game.state(), 0);
        int second = keepers.keeper(game.state(), 1);
        int third = keepers.keeper(game.state(), 2);
        tell(first, second);
        numbers[2] = third;
        told = 3;
        return Integer.bitCount(1 << first | 1 << second | 1 << third);
    }

    public int out(int heir) {
        if (heir < 0 || heir > 2) {
            return NONE;
        }
        if (keepers.keeper(game.state(), 0) != heir) {
            return KEEPS_IT_NOT;
        }
        for (int gone = 0; gone < 3; gone++) {
            if (gone != heir && keepers.keeperWithout(game.state(), gone) != heir) {
                return gone;
            }
        }
        return CANNOT;
    }

    // ---- a notary

    public int notary(int heir, int c) {
        if (heir < 0 || heir > 1 || c < 0 || c > 10) {
            return NONE;
        }
        if (isTooMuch(Few.MOST_BY_CHANCE)) {
            return TOO_MUCH;
        }
        few.hire(heir, c, game.ending());
        tellFraction(few.chance(game.there(), game.turn()), Few.CHANCES);
        return 0;
    }

    // ---- changes

    public int change() {
        if (isTooMuch(Few.MOST)) {
            return TOO_MUCH;
        }
        int fewest = changes.fewest(game.there(), game.turn(), game.ending());
        if (fewest == 1) {
            tell(changes.firstChange());
        } else if (fewest == 2) {
            tell(changes.firstChange(), changes.secondChange());
        }
        return fewest;
    }

    public int single() {
        if (isTooMuch(Few.MOST)) {
            return TOO_MUCH;
        }
        long turning = changes.turning(game.there(), game.turn(), game.ending());
        tell(turning & pile.full(), turning >> Changes.LAID & pile.full());
        numbers[2] = turning >> Changes.LAID_ON_NONE & 1;
        told = 3;
        return Long.bitCount(turning);
    }

    // ---- kept

    public boolean keep(int i) {
        if (i < 0 || i >= KEPT) {
            return false;
        }
        kept[i].copy(game);
        isKept[i] = true;
        return true;
    }

    public boolean again(int i) {
        if (i < 0 || i >= KEPT || !isKept[i]) {
            return false;
        }
        game.copy(kept[i]);
        return true;
    }

    public int count(int what) {
        switch (what) {
            case 0:
                return pile.things();
            case 1:
                return game.there();
            case 2:
                return game.made();
            case 3:
                return game.turn();
            case 4:
                return pile.putBack(game.state());
            case 5:
                return game.ending();
            case 6:
                return told;
            case 7:
                return text.length();
            default:
                return NONE;
        }
    }

    public long row(int i) throws NoSuchElementException {
        if (i < 0 || i >= told || i >= numbers.length) {
            throw new NoSuchElementException("no such number");
        }
        return numbers[i];
    }

    private void tell(long number) {
        numbers[0] = number;
        told = 1;
    }

    private void tell(long number, long next) {
        numbers[0] = number;
        numbers[1] = next;
        told = 2;
    }

    private void tellFraction(long upper, long lower) {
        long common = commonDivisor(Math.abs(upper), lower);
        tell(upper / common, lower / common);
    }

    /** Of two numbers, neither below 0: at least 1. Euclid's steps are far fewer than the bound. */
    private static long commonDivisor(long a, long b) {
        long greater = a;
        long lesser = b;
        for (int k = 0; k < 200 && lesser != 0; k++) {
            long rest = greater % lesser;
            greater = lesser;
            lesser = rest;
        }
        return Math.max(1, greater);
    }

    /** THE TEXT, and the reading of it as LINES. */
    private static final class Text {
        private static final int ROOM = 80;
        private static final int MOST_READ = 76;
        // what may stand next
        private static final int WORTH = 0;
        private static final int COLON = 1;
        private static final int HEIRS = 2;
        private static final int BEHIND_HEIRS = 3;
        private static final int NUMBER = 4;
        private static final int SECOND_DIGIT = 5;
        private static final int BEHIND_NUMBER = 6;
        private static final int BEHIND_BACK = 7;

        private final int[] signs = new int[ROOM];
        private int length = 0;
        // what the LINES tell, till all are read
        private final int[] worth = new int[MOST_THINGS];
        private final int[] heirs = new int[MOST_THINGS];
        private final int[] under = new int[MOST_THINGS];
        private final boolean[] back = new boolean[MOST_THINGS];
        private int lines = 0;
        private int ahead = 0;
        private int backs = 0;
        private int next = WORTH;
        private int number = 0;
        private int lastNumber = NONE;

        int length() {
            return length;
        }

        int append(int v) {
            if (length + 4 > ROOM) {
                return NONE;
            }
            for (int k = 0; k < 4; k++) {
                signs[length + k] = v >>> 24 - 8 * k & 255;
            }
            length += 4;
            return length;
        }

        boolean cut(int n) {
            if (n < 0 || n > length) {
                return false;
            }
            length = n;
            return true;
        }

        /** How many LINES it tells behind the THINGS of a pile; -1 - p, if the sign at p can't stand there. */
        int read(Pile pile) {
            lines = 0;
            ahead = pile.things();
            backs = pile.backs();
            next = WORTH;
            int stop = Math.min(length, MOST_READ);
            for (int p = 0; p < stop; p++) {
                boolean goesOn = p + 1 < stop && isDigit(signs[p + 1]);
                if (!takes(signs[p], goesOn)) {
                    return -1 - p;
                }
            }
            if (length > MOST_READ) {
                return -1 - MOST_READ;
            }
            return length == 0 || mayEnd() ? lines : -1 - length;
        }

        /** The LINES that were read become THINGS. */
        void layOn(Pile pile) {
            for (int k = 0; k < lines && k < MOST_THINGS; k++) {
                pile.add(worth[k], heirs[k], under[k], back[k]);
            }
            pile.settle();
        }

        private static boolean isDigit(int sign) {
            return sign >= '0' && sign <= '9';
        }

        private boolean mayEnd() {
            return next == BEHIND_HEIRS || next == BEHIND_NUMBER || next == BEHIND_BACK;
        }

        private boolean takes(int sign, boolean goesOn) {
            switch (next) {
                case WORTH:
                    return takesWorth(sign);
                case COLON:
                    next = HEIRS;
                    return sign == ':';
                case HEIRS:
                    return takesHeirs(sign);
                case BEHIND_HEIRS:
                    return takesOn(sign, '^') || takesTail(sign);
                case NUMBER:
                    return takesFirstDigit(sign, goesOn);
                case SECOND_DIGIT:
                    number = number * 10 + sign - '0';
                    return takesNumber();
                case BEHIND_NUMBER:
                    return takesOn(sign, ',') || takesTail(sign);
                default:
                    return takesLineEnd(sign);
            }
        }

        private boolean takesWorth(int sign) {
            if (!isDigit(sign) || ahead + lines >= MOST_THINGS) {
                return false;
            }
            worth[lines] = sign - '0';
            under[lines] = 0;
            back[lines] = false;
            lines++;
            lastNumber = NONE;
            next = COLON;
            return true;
        }

        private boolean takesHeirs(int sign) {
            if (sign < '1' || sign > '7' || lines < 1) {
                return false;
            }
            heirs[lines - 1] = sign - '0';
            next = BEHIND_HEIRS;
            return true;
        }

        private boolean takesOn(int sign, int due) {
            if (sign != due) {
                return false;
            }
            next = NUMBER;
            return true;
        }

        private boolean takesFirstDigit(int sign, boolean goesOn) {
            if (!isDigit(sign)) {
                return false;
            }
            number = sign - '0';
            if (goesOn) {
                next = SECOND_DIGIT;
                return true;
            }
            return takesNumber();
        }

        private boolean takesNumber() {
            if (lines < 1 || number <= lastNumber || number >= ahead + lines - 1) {
                return false;
            }
            under[lines - 1] |= 1 << number;
            lastNumber = number;
            next = BEHIND_NUMBER;
            return true;
        }

        private boolean takesTail(int sign) {
            if (sign != 'r') {
                return takesLineEnd(sign);
            }
            if (lines < 1 || backs >= MOST_BACK) {
                return false;
            }
            back[lines - 1] = true;
            backs++;
            next = BEHIND_BACK;
            return true;
        }

        private boolean takesLineEnd(int sign) {
            next = WORTH;
            return sign == ';';
        }
    }

    /**
     * The THINGS, and how MOVES change a STATE. A STATE is one number: the THINGS THERE in its lowest
     * bits, and ahead of them a bit for each of BACK, set if it was put back: so it can be the index of a
     * row. MOVES are STEPS here: the bit of a STATE that a MOVE is about, in the same order as MOVES.
     */
    private static final class Pile {
        private static final int MOST_STEPS = MOST_THINGS + MOST_BACK;
        /** WORTHS are added up ahead of time for the lower and the upper half of the THINGS. */
        private static final int HALF = MOST_THINGS / 2;
        private static final int HALF_MASK = (1 << HALF) - 1;

        private final int[] worth = new int[MOST_THINGS];
        private final int[] heirs = new int[MOST_THINGS];
        private final int[] under = new int[MOST_THINGS];
        private final int[] above = new int[MOST_THINGS];
        private final int[] touching = new int[MOST_THINGS];
        private final int[] back = new int[MOST_BACK];
        private final int[] allowed = new int[ANYBODY + 1];
        // what a STEP takes out of a STATE, what it puts into it
        private final int[] clears = new int[MOST_STEPS];
        private final int[] sets = new int[MOST_STEPS];
        private final int[] lowerSums = new int[1 << HALF];
        private final int[] upperSums = new int[1 << HALF];
        // HEAPS when all are THERE, with the bits of those of BACK in them
        private final int[] wholeHeaps = new int[MOST_THINGS];
        private int heapsInAll = 0;
        private int things = 0;
        private int backs = 0;
        private int version = 0;

        /** The number of the lowest bit of a number that has one. */
        static int lowest(int bits) {
            return Integer.bitCount((bits & -bits) - 1);
        }

        void add(int itsWorth, int itsHeirs, int itsUnder, boolean isBack) {
            if (things >= MOST_THINGS) {
                return;
            }
            int bit = 1 << things;
            worth[things] = itsWorth;
            heirs[things] = itsHeirs;
            under[things] = itsUnder;
            above[things] = 0;
            touching[things] = itsUnder;
            for (int i = 0; i < things; i++) {
                if ((itsUnder & (above[i] | 1 << i)) != 0) {
                    above[i] |= bit;
                }
                if ((itsUnder >> i & 1) != 0) {
                    touching[i] |= bit;
                }
            }
            for (int heir = 0; heir <= ANYBODY; heir++) {
                if (heir == ANYBODY || (itsHeirs >> heir & 1) != 0) {
                    allowed[heir] |= bit;
                }
            }
            if (isBack && backs < MOST_BACK) {
                back[backs] = things;
                backs++;
            }
            things++;
        }

        /** Behind the last of some THINGS told: what STEPS do depends on how many there are. */
        void settle() {
            version++;
            for (int i = 0; i < things; i++) {
                clears[i] = above[i] | 1 << i;
                sets[i] = 0;
            }
            for (int k = 0; k < backs; k++) {
                clears[things + k] = 0;
                sets[things + k] = 1 << back[k] | 1 << things + k;
            }
            splitHeaps();
            addUp();
        }

        private void splitHeaps() {
            int left = full();
            heapsInAll = 0;
            for (int i = 0; i < things; i++) {
                if ((left >> i & 1) != 0) {
                    int heap = heapOf(i, left);
                    left &= ~heap;
                    for (int k = 0; k < backs; k++) {
                        heap |= (heap >> back[k] & 1) << things + k;
                    }
                    wholeHeaps[heapsInAll] = heap;
                    heapsInAll++;
                }
            }
        }

        /** Behind other WORTHS: the sums of all parts of each half. */
        void addUp() {
            for (int i = 0; i < HALF; i++) {
                int bit = 1 << i;
                for (int part = 0; part < bit; part++) {
                    lowerSums[part | bit] = lowerSums[part] + worth[i];
                    upperSums[part | bit] = upperSums[part] + worth[HALF + i];
                }
            }
        }

        /** Bits of no THING count nothing: none of them was ever told a WORTH. */
        int worthOf(int some) {
            return lowerSums[some & HALF_MASK] + upperSums[some >> HALF & HALF_MASK];
        }

        /** Another one whenever THINGS were told. */
        int version() {
            return version;
        }

        int things() {
            return things;
        }

        int backs() {
            return backs;
        }

        boolean has(int i) {
            return i >= 0 && i < things;
        }

        int worthAt(int i) {
            return has(i) ? worth[i] : 0;
        }

        void setWorth(int i, int v) {
            if (has(i)) {
                worth[i] = v;
            }
        }

        int heirsOf(int i) {
            return has(i) ? heirs[i] : 0;
        }

        int under(int i) {
            return has(i) ? under[i] : 0;
        }

        int above(int i) {
            return has(i) ? above[i] : 0;
        }

        boolean isBack(int i) {
            return backs > 0 && back[0] == i || backs > 1 && back[1] == i;
        }

        /** All THINGS, as bits. */
        int full() {
            return (1 << things) - 1;
        }

        /** The STATE when all are THERE and nothing was put back. */
        int first() {
            return full();
        }

        private int allPutBack() {
            return (1 << backs) - 1 << things;
        }

        /** The STATE when just these are THERE and nothing can be put back. */
        int justThese(int some) {
            return some & full() | allPutBack();
        }

        int heapsInAll() {
            return heapsInAll;
        }

        /** A STATE as it is in one HEAP of the whole pile, the others gone for ever. */
        int inHeap(int state, int h) {
            int heap = h >= 0 && h < heapsInAll ? wholeHeaps[h] : 0;
            return state & heap | allPutBack() & ~heap;
        }

        /** How many numbers a STATE can be. */
        int size() {
            return 1 << things + backs;
        }

        /** Of a STATE: the THINGS that were put back. */
        int putBack(int state) {
            int bits = 0;
            for (int k = 0; k < backs; k++) {
                bits |= (state >> things + k & 1) << back[k];
            }
            return bits;
        }

        int takes(int state, int heir) {
            return heir >= 0 && heir <= ANYBODY ? state & allowed[heir] : 0;
        }

        /** The STEPS of an HEIR, as bits. */
        int moves(int state, int heir) {
            int bits = takes(state, heir);
            for (int k = 0; k < backs; k++) {
                if ((state & sets[things + k]) == 0 && (under[back[k]] & ~state) == 0) {
                    bits |= 1 << things + k;
                }
            }
            return bits;
        }

        /** STEPS are numbered 0 .. and there are as many. */
        int steps() {
            return things + backs;
        }

        boolean can(int state, int heir, int step) {
            return step >= 0 && step < steps() && (moves(state, heir) >> step & 1) != 0;
        }

        /** The STATE behind a STEP. */
        int behind(int state, int step) {
            return step >= 0 && step < MOST_STEPS ? state & ~clears[step] | sets[step] : state;
        }

        /** The STEP that a MOVE of the document is; NONE, if it never can be made. */
        int step(int move) {
            if (has(move)) {
                return move;
            }
            for (int k = 0; k < backs; k++) {
                if (move == MOST_THINGS + back[k]) {
                    return things + k;
                }
            }
            return NONE;
        }

        /** The MOVE of the document that a STEP is; NONE for NONE. */
        int moveOf(int step) {
            return step >= things && step < steps() ? MOST_THINGS + back[step - things] : step;
        }

        /** The MOVES of the document that some STEPS are, as bits. */
        int named(int steps) {
            int bits = steps & full();
            for (int k = 0; k < backs; k++) {
                bits |= (steps >> things + k & 1) << MOST_THINGS + back[k];
            }
            return bits;
        }

        /** Of some THINGS: those that are not ABOVE another one of them. */
        int lowestOf(int some) {
            int higher = 0;
            for (int i = 0; i < things; i++) {
                if ((some >> i & 1) != 0) {
                    higher |= above[i];
                }
            }
            return some & ~higher;
        }

        /** Some THINGS and all ABOVE them that are THERE. */
        int withAbove(int some, int there) {
            int all = 0;
            for (int i = 0; i < things; i++) {
                if ((some >> i & 1) != 0) {
                    all |= clears[i];
                }
            }
            return all & there;
        }

        /** What hangs together with a THING by THINGS that are THERE. */
        int heapOf(int i, int there) {
            int all = 1 << i & there;
            for (int round = 0; round < things; round++) {
                int more = all;
                for (int j = 0; j < things; j++) {
                    if ((all >> j & 1) != 0) {
                        more |= touching[j] & there;
                    }
                }
                if (more == all) {
                    break;
                }
                all = more;
            }
            return all;
        }
    }

    /** A game: the STATE, the STATES ahead of each MOVE made, the END. HEIR 0 begins, so who is on turn is known. */
    private static final class Game {
        private final Pile pile;
        private final int[] before = new int[MOST_MOVES];
        private int made = 0;
        private int state = 0;
        private int ending = 0;

        Game(Pile pile) {
            this.pile = pile;
        }

        void start() {
            made = 0;
            state = pile.first();
        }

        int state() {
            return state;
        }

        int there() {
            return state & pile.full();
        }

        int made() {
            return made;
        }

        int turn() {
            return made & 1;
        }

        int ending() {
            return ending;
        }

        void endBy(int v) {
            ending = v;
        }

        /** A STEP that can be made: the THINGS that are gone by it. */
        int go(int step) {
            if (made >= before.length) {
                return CANNOT;
            }
            int was = state;
            before[made] = was;
            made++;
            state = pile.behind(was, step);
            return was & ~state;
        }

        int goBack() {
            if (made < 1 || made > before.length) {
                return NONE;
            }
            made--;
            state = before[made];
            return made;
        }

        int takenBy(int heir) {
            int sum = 0;
            for (int k = heir; k < made && k < before.length; k += 2) {
                int after = k + 1 < made && k + 1 < before.length ? before[k + 1] : state;
                sum += pile.worthOf(before[k] & ~after);
            }
            return sum;
        }

        void copy(Game other) {
            for (int k = 0; k < before.length; k++) {
                before[k] = other.before[k];
            }
            made = other.made;
            state = other.state;
            ending = other.ending;
        }
    }

    /** A number for each STATE, at first 0; all are 0 again when THINGS were told. */
    private static final class Memo {
        private long[] cells = new long[1];
        private int version = NONE;

        void fit(Pile pile) {
            if (version != pile.version()) {
                version = pile.version();
                cells = new long[Math.max(1, pile.size())];
            }
        }

        long at(int state) {
            return state >= 0 && state < cells.length ? cells[state] : 0;
        }

        void set(int state, long number) {
            if (state >= 0 && state < cells.length) {
                cells[state] = number;
            }
        }
    }

    /** Who of HEIRS 0 and 1 wins, how soon, and what can come. */
    private static final class Winners {
        private static final int LOST = 1;
        private static final int WON = 2;
        private static final int LONGEST_LINES = 5;

        private final Pile pile;
        // two bits for each HEIR and END: LOST, WON; from bit 8 on five for each: 1 + how soon
        private final Memo known = new Memo();
        // for each HEIR a bit behind the number of the walk that has been there
        private final Memo marks = new Memo();
        private int walk = 0;
        private int reached = 0;
        private int lost = 0;

        Winners(Pile pile) {
            this.pile = pile;
        }

        boolean victory(int state, int heir, int end) {
            known.fit(pile);
            return victoryFrom(state, heir, end, 0);
        }

        /** Whether an HEIR on turn wins. */
        private boolean victoryFrom(int state, int heir, int end, int depth) {
            int shift = 4 * heir + 2 * end;
            int was = (int) (known.at(state) >> shift) & 3;
            if (was != 0 || depth > DEEPEST) {
                return was == WON;
            }
            int moves = pile.moves(state, heir);
            int steps = pile.steps();
            boolean wins = moves == 0 && end == 1;
            for (int step = 0; step < steps && !wins; step++) {
                if ((moves >> step & 1) != 0) {
                    wins = !victoryFrom(pile.behind(state, step), 1 - heir, end, depth + 1);
                }
            }
            known.set(state, known.at(state) | (long) (wins ? WON : LOST) << shift);
            return wins;
        }

        int winningSteps(int state, int heir, int end) {
            int moves = pile.moves(state, heir);
            int winning = 0;
            for (int step = 0; step < pile.steps(); step++) {
                if ((moves >> step & 1) != 0 && !victory(pile.behind(state, step), 1 - heir, end)) {
                    winning |= 1 << step;
                }
            }
            return winning;
        }

        int soonest(int state, int heir, int end) {
            known.fit(pile);
            return soonestFrom(state, heir, end, 0);
        }

        /** A game's length tells who wins: whoever is on turn behind its last MOVE has none. */
        private static boolean wonIn(int length, int end) {
            return (length & 1) != end;
        }

        private int soonestFrom(int state, int heir, int end, int depth) {
            int shift = 8 + 10 * heir + 5 * end;
            int was = (int) (known.at(state) >> shift) & 31;
            if (was != 0 || depth > DEEPEST) {
                return was - 1;
            }
            int moves = pile.moves(state, heir);
            int steps = pile.steps();
            int won = NONE;
            int lost = moves == 0 ? 0 : NONE;
            for (int step = 0; step < steps; step++) {
                if ((moves >> step & 1) != 0) {
                    int length = 1 + soonestFrom(pile.behind(state, step), 1 - heir, end, depth + 1);
                    if (!wonIn(length, end)) {
                        lost = Math.max(lost, length);
                    } else if (won == NONE || length < won) {
                        won = length;
                    }
                }
            }
            int soonest = won == NONE ? lost : won;
            long winner = (wonIn(soonest, end) ? (long) WON : LOST) << 4 * heir + 2 * end;
            known.set(state, known.at(state) | winner | (long) (soonest + 1 & 31) << shift);
            return soonest;
        }

        int firstSoonest(int state, int heir, int end) {
            int soonest = soonest(state, heir, end);
            int moves = pile.moves(state, heir);
            for (int step = 0; step < pile.steps(); step++) {
                if ((moves >> step & 1) != 0
                        && 1 + soonest(pile.behind(state, step), 1 - heir, end) == soonest) {
                    return step;
                }
            }
            return NONE;
        }

        /** How many STATES can come, with who is on turn. */
        int reach(int state, int heir, int end) {
            known.fit(pile);
            marks.fit(pile);
            walk++;
            reached = 0;
            lost = 0;
            visit(state, heir, end, 0);
            return reached;
        }

        /** In how many of those reached last whoever is on turn loses. */
        int lostReached() {
            return lost;
        }

        private void visit(int state, int heir, int end, int depth) {
            long mark = marks.at(state);
            long here = mark >> 2 == walk ? mark : (long) walk << 2;
            if ((here >> heir & 1) != 0 || depth > DEEPEST) {
                return;
            }
            marks.set(state, here | 1L << heir);
            reached++;
            if (!victoryFrom(state, heir, end, 0)) {
                lost++;
            }
            int moves = pile.moves(state, heir);
            int steps = pile.steps();
            for (int step = 0; step < steps; step++) {
                if ((moves >> step & 1) != 0) {
                    visit(pile.behind(state, step), 1 - heir, end, depth + 1);
                }
            }
        }

        /** How many games of just n MOVES there are. */
        long games(int state, int heir, int n) {
            return n < 0 || n > LONGEST_LINES ? NONE : gamesFrom(state, heir, n);
        }

        private long gamesFrom(int state, int heir, int n) {
            if (n <= 0) {
                return 1;
            }
            int moves = pile.moves(state, heir);
            if (n == 1) {
                return Integer.bitCount(moves);
            }
            int steps = pile.steps();
            long sum = 0;
            for (int step = 0; step < steps; step++) {
                if ((moves >> step & 1) != 0) {
                    sum += gamesFrom(pile.behind(state, step), 1 - heir, n - 1);
                }
            }
            return sum;
        }
    }

    /** VALUES, trees by joining, and HEAPS that are alike. */
    private static final class Heaps {
        private static final int MOST_COMPARED = 6;

        private final Pile pile;
        // 1 + VALUE
        private final Memo values = new Memo();
        private final int[] joints = new int[MOST_THINGS];
        private final int[] left = new int[MOST_COMPARED];
        private final int[] right = new int[MOST_COMPARED];
        private final int[] partner = new int[MOST_COMPARED];

        Heaps(Pile pile) {
            this.pile = pile;
        }

        /** HEAPS side by side: the VALUES of all joined, so that each is looked at by itself. */
        int valueOf(int state) {
            values.fit(pile);
            int joined = 0;
            for (int h = 0; h < pile.heapsInAll(); h++) {
                joined ^= valueFrom(pile.inHeap(state, h), 0);
            }
            return joined;
        }

        private int valueFrom(int state, int depth) {
            long was = values.at(state);
            if (was != 0 || depth > DEEPEST) {
                return (int) was - 1;
            }
            int moves = pile.moves(state, ANYBODY);
            int steps = pile.steps();
            int bits = 0;
            for (int step = 0; step < steps; step++) {
                if ((moves >> step & 1) != 0) {
                    bits |= 1 << valueFrom(pile.behind(state, step), depth + 1);
                }
            }
            int value = Pile.lowest(~bits);
            values.set(state, value + 1);
            return value;
        }

        /** VALUES to which MOVES lead, as bits. */
        int valuesBehind(int state) {
            int moves = pile.moves(state, ANYBODY);
            int bits = 0;
            for (int step = 0; step < pile.steps(); step++) {
                if ((moves >> step & 1) != 0) {
                    bits |= 1 << valueOf(pile.behind(state, step));
                }
            }
            return bits;
        }

        /** The first STEP by which VALUE becomes v. */
        int firstTo(int state, int v) {
            int moves = pile.moves(state, ANYBODY);
            for (int step = 0; step < pile.steps(); step++) {
                if ((moves >> step & 1) != 0 && valueOf(pile.behind(state, step)) == v) {
                    return step;
                }
            }
            return NONE;
        }

        /** THINGS lie on ones told ahead of them: from the last on, each finds all on it joined already. */
        int byJoining(int there) {
            int answer = 0;
            for (int i = 0; i < MOST_THINGS; i++) {
                joints[i] = 0;
            }
            for (int i = MOST_THINGS - 1; i >= 0; i--) {
                int under = pile.under(i) & there;
                if ((there >> i & 1) == 0) {
                    continue;
                }
                if (Integer.bitCount(under) > 1) {
                    return CANNOT;
                }
                if (under == 0) {
                    answer ^= joints[i] + 1;
                } else {
                    joints[Pile.lowest(under)] ^= joints[i] + 1;
                }
            }
            return answer;
        }

        /** 1 if two HEAPS are alike, 0 if not, -3 if one is too great. */
        int compare(int one, int other) {
            int many = list(one, left);
            int others = list(other, right);
            if (many > MOST_COMPARED || others > MOST_COMPARED) {
                return TOO_MUCH;
            }
            return many == others && pairs(0, many, 0) ? 1 : 0;
        }

        /** The THINGS of a HEAP, as many as have room; how many it has. */
        private static int list(int heap, int[] room) {
            int many = 0;
            for (int i = 0; i < MOST_THINGS; i++) {
                if ((heap >> i & 1) != 0) {
                    if (many < room.length) {
                        room[many] = i;
                    }
                    many++;
                }
            }
            return many;
        }

        /** Whether those of the left from k on find partners of the right that have none yet. */
        private boolean pairs(int k, int many, int used) {
            if (k >= many || k >= MOST_COMPARED) {
                return true;
            }
            for (int p = 0; p < many && p < MOST_COMPARED; p++) {
                if ((used >> p & 1) == 0 && fits(k, right[p])) {
                    partner[k] = right[p];
                    if (pairs(k + 1, many, used | 1 << p)) {
                        return true;
                    }
                }
            }
            return false;
        }

        /** Whether a THING of the right lies to the partners so far as the left one at k to those ahead of it. */
        private boolean fits(int k, int thing) {
            for (int j = 0; j < k; j++) {
                boolean liesOn = (pile.under(left[k]) >> left[j] & 1) == (pile.under(thing) >> partner[j] & 1);
                boolean carries = (pile.under(left[j]) >> left[k] & 1) == (pile.under(partner[j]) >> thing & 1);
                if (!liesOn || !carries) {
                    return false;
                }
            }
            return true;
        }
    }

    /** Walls of four rows, three bits for the length of each. */
    private static final class Wall {
        static final int LONGEST = 7;
        private static final int ROWS = 4;
        private static final int LOST = 1;
        private static final int WON = 2;

        private byte[] known = new byte[0];

        static int packed(int a, int b, int c, int d) {
            return a | b << 3 | c << 6 | d << 9;
        }

        /** Whether whoever is on turn wins; without stones the other one took the last. */
        boolean victory(int rows) {
            if (known.length == 0) {
                known = new byte[1 << 3 * ROWS];
            }
            return rows == 0 || stoneFrom(rows, 0) != NONE;
        }

        /** The first stone by which whoever is on turn wins: 7 for each row ahead and its place. */
        int winningStone(int rows) {
            return victory(rows) ? stoneFrom(rows, 0) : NONE;
        }

        private boolean victoryFrom(int rows, int depth) {
            if (rows < 0 || rows >= known.length || depth > DEEPEST) {
                return false;
            }
            if (known[rows] == 0) {
                boolean wins = rows == 0 || stoneFrom(rows, depth) != NONE;
                known[rows] = (byte) (wins ? WON : LOST);
            }
            return known[rows] == WON;
        }

        private int stoneFrom(int rows, int depth) {
            for (int r = 0; r < ROWS; r++) {
                int length = rows >> 3 * r & 7;
                for (int p = 0; p < length; p++) {
                    if (!victoryFrom(without(rows, r, p), depth + 1)) {
                        return r * LONGEST + p;
                    }
                }
            }
            return NONE;
        }

        private static int without(int rows, int row, int place) {
            int left = rows;
            for (int r = row; r < ROWS; r++) {
                int length = rows >> 3 * r & 7;
                if (length > place) {
                    left += place - length << 3 * r;
                }
            }
            return left;
        }
    }

    /** By how much one of HEIRS 0 and 1 gets more than the other. */
    private static final class Worths {
        /** What is told is put above 0 by this, as 0 says that nothing is known. */
        private static final int ZERO = 1000;

        private final Pile pile;
        // 16 bits for each HEIR, and ahead of them the sheet by which they hold
        private final Memo known = new Memo();
        private long sheet = 1;

        Worths(Pile pile) {
            this.pile = pile;
        }

        /** The WORTHS are others now. */
        void forget() {
            sheet++;
        }

        int more(int state, int heir) {
            known.fit(pile);
            return moreFrom(state, heir, 0);
        }

        /** What is known of a STATE by this sheet. */
        private long cell(int state) {
            long cell = known.at(state);
            return cell >>> 32 == sheet ? cell : sheet << 32;
        }

        private int moreFrom(int state, int heir, int depth) {
            long cell = known.at(state);
            int was = cell >>> 32 == sheet ? (int) (cell >> 16 * heir) & 0xFFFF : 0;
            if (was != 0 || depth > DEEPEST) {
                return was - ZERO;
            }
            int moves = pile.moves(state, heir);
            int steps = pile.steps();
            int most = moves == 0 ? 0 : -ZERO;
            for (int step = 0; step < steps; step++) {
                if ((moves >> step & 1) != 0) {
                    int behind = pile.behind(state, step);
                    int more = pile.worthOf(state & ~behind) - moreFrom(behind, 1 - heir, depth + 1);
                    most = more > most ? more : most;
                }
            }
            known.set(state, cell(state) | (long) (most + ZERO) << 16 * heir);
            return most;
        }

        int firstBest(int state, int heir) {
            int most = more(state, heir);
            int moves = pile.moves(state, heir);
            for (int step = 0; step < pile.steps(); step++) {
                int behind = pile.behind(state, step);
                if ((moves >> step & 1) != 0
                        && pile.worthOf(state & ~behind) - more(behind, 1 - heir) == most) {
                    return step;
                }
            }
            return NONE;
        }

        /** The first STEP that takes what is worth the most. */
        int greediest(int state, int heir) {
            int takes = pile.takes(state, heir);
            int most = NONE;
            int first = NONE;
            for (int step = 0; step < pile.things(); step++) {
                if ((takes >> step & 1) != 0) {
                    int gain = pile.worthOf(state & ~pile.behind(state, step));
                    if (gain > most) {
                        most = gain;
                        first = step;
                    }
                }
            }
            return first;
        }
    }

    /**
     * Few THINGS that are THERE, none of them BACK, numbered anew from 0 on, so that what is told of all
     * parts of them has room in a small row. Means and chances are whole numbers of a fraction so fine
     * that they come out even: k THINGS divide by 1 .. k (and by ten, with a notary), then k - 1 by 1 .. k - 1.
     */
    private static final class Few {
        static final int MOST = 8;
        static final int MOST_BY_CHANCE = 6;
        static final long MEANS = 60L * 60 * 12 * 6 * 2;
        static final long CHANCES = 1000000 * MEANS;

        private final Pile pile;
        private final int[] number = new int[MOST];
        private final int[] clears = new int[MOST];
        private final int[] allowed = new int[2];
        private final long[] cells = new long[2 << MOST_BY_CHANCE];
        private int many = 0;
        private int client = 0;
        private int cases = 0;
        private int ending = 0;

        Few(Pile pile) {
            this.pile = pile;
        }

        /** The THINGS that are THERE get their new numbers. */
        void lay(int there) {
            many = 0;
            for (int i = 0; i < MOST_THINGS; i++) {
                if ((there >> i & 1) != 0 && many < MOST) {
                    number[many] = i;
                    many++;
                }
            }
            for (int k = 0; k < many; k++) {
                clears[k] = renumbered(1 << number[k] | pile.above(number[k]));
            }
            for (int heir = 0; heir < 2; heir++) {
                allowed[heir] = renumbered(pile.takes(there, heir));
            }
        }

        private int renumbered(int things) {
            int bits = 0;
            for (int k = 0; k < many; k++) {
                bits |= (things >> number[k] & 1) << k;
            }
            return bits;
        }

        private int worthOf(int part) {
            int sum = 0;
            for (int k = 0; k < many; k++) {
                sum += (part >> k & 1) * pile.worthAt(number[k]);
            }
            return sum;
        }

        int many() {
            return many;
        }

        int all() {
            return (1 << many) - 1;
        }

        /** The THING that has a new number. */
        int thingAt(int k) {
            return k >= 0 && k < many ? number[k] : NONE;
        }

        int takes(int part, int heir) {
            return heir >= 0 && heir < 2 ? part & allowed[heir] : 0;
        }

        int behind(int part, int k) {
            return k >= 0 && k < many ? part & ~clears[k] : part;
        }

        private long cell(int part, int heir) {
            int at = 2 * part + heir;
            return at >= 0 && at < cells.length ? cells[at] : 0;
        }

        private void set(int part, int heir, long number) {
            int at = 2 * part + heir;
            if (at >= 0 && at < cells.length) {
                cells[at] = number;
            }
        }

        /** How many of MEANS whoever is on turn gets more in the mean. */
        long meanMore(int there, int turn) {
            lay(there);
            for (int part = 0; part <= all(); part++) {
                set(part, 0, meanOf(part, 0));
                set(part, 1, meanOf(part, 1));
            }
            return cell(all(), turn);
        }

        private long meanOf(int part, int heir) {
            int moves = takes(part, heir);
            long sum = 0;
            for (int k = 0; k < many; k++) {
                if ((moves >> k & 1) != 0) {
                    int behind = behind(part, k);
                    sum += worthOf(part & ~behind) * MEANS - cell(behind, 1 - heir);
                }
            }
            return moves == 0 ? 0 : sum / Integer.bitCount(moves);
        }

        /** From now on chances are those of an HEIR, with a notary in some of ten cases, by an END. */
        void hire(int heir, int c, int end) {
            client = heir;
            cases = c;
            ending = end;
        }

        /** With how many of CHANCES the HEIR wins. */
        long chance(int there, int turn) {
            lay(there);
            for (int part = 0; part <= all(); part++) {
                set(part, 0, chanceOf(part, 0));
                set(part, 1, chanceOf(part, 1));
            }
            return cell(all(), turn);
        }

        private long chanceOf(int part, int heir) {
            int moves = takes(part, heir);
            int choices = Integer.bitCount(moves);
            if (choices == 0) {
                return (client == heir) == (ending == 1) ? CHANCES : 0;
            }
            long sum = 0;
            long chosen = client == heir ? 0 : CHANCES;
            for (int k = 0; k < many; k++) {
                if ((moves >> k & 1) != 0) {
                    long next = cell(behind(part, k), 1 - heir);
                    sum += next;
                    chosen = client == heir ? Math.max(chosen, next) : Math.min(chosen, next);
                }
            }
            return ((10 - cases) * choices * chosen + cases * sum) / (10 * choices);
        }
    }

    /** Three HEIRS, none of whom wants the parrot. */
    private static final class Parrots {
        private static final int NOBODY = 3;
        private static final int BEST = 2;
        private static final int PAIRS = 48;

        private final Pile pile;
        // for each way to like 6 bits: 1 + who keeps it, for each HEIR on turn; from bit 48 on for two
        // HEIRS alone: 1 if who is on turn keeps it, 2 if not
        private final Memo known = new Memo();
        // a bit for each HEIR: whether it likes the one ahead of it in turn, not the next one
        private int liking = 0;

        Parrots(Pile pile) {
            this.pile = pile;
        }

        private static int next(int heir) {
            return heir == 2 ? 0 : heir + 1;
        }

        void like(int heir, int first) {
            liking = first == next(heir) ? liking & ~(1 << heir) : liking | 1 << heir;
        }

        /** How well an HEIR likes it that one keeps the parrot: 0 .. 2. */
        private int liked(int heir, int keeper) {
            if (keeper == heir) {
                return 0;
            }
            return (keeper == next(heir)) == ((liking >> heir & 1) == 0) ? BEST : 1;
        }

        int keeper(int state, int heir) {
            known.fit(pile);
            return pile.moves(state, heir) == 0 ? NOBODY : keeperFrom(state, heir, 0);
        }

        /** Who keeps it, if the HEIR ahead of the one on turn has MOVED. */
        private int keeperFrom(int state, int heir, int depth) {
            int shift = 6 * liking + 2 * heir;
            int was = (int) (known.at(state) >> shift) & 3;
            if (was != 0 || depth > DEEPEST) {
                return was - 1;
            }
            int moves = pile.moves(state, heir);
            int steps = pile.steps();
            int keeper = moves == 0 ? next(next(heir)) : heir;
            int best = 0;
            for (int step = 0; step < steps && best < BEST; step++) {
                if ((moves >> step & 1) != 0) {
                    int other = keeperFrom(pile.behind(state, step), next(heir), depth + 1);
                    if (liked(heir, other) > best) {
                        best = liked(heir, other);
                        keeper = other;
                    }
                }
            }
            known.set(state, known.at(state) | (long) (keeper + 1) << shift);
            return keeper;
        }

        int firstStep(int state, int heir) {
            int keeper = keeper(state, heir);
            int moves = pile.moves(state, heir);
            for (int step = 0; step < pile.steps(); step++) {
                if ((moves >> step & 1) != 0 && keeperFrom(pile.behind(state, step), next(heir), 0) == keeper) {
                    return step;
                }
            }
            return NONE;
        }

        /** Who keeps it, if two HEIRS go on without the third. */
        int keeperWithout(int state, int gone) {
            int lesser = gone == 0 ? 1 : 0;
            int greater = gone == 2 ? 1 : 2;
            known.fit(pile);
            if (pile.moves(state, lesser) == 0) {
                return NOBODY;
            }
            return escapes(state, lesser, greater, 0) ? greater : lesser;
        }

        /** Of two HEIRS: whether the one on turn does not keep it, if the other one has MOVED. */
        private boolean escapes(int state, int heir, int other, int depth) {
            int shift = PAIRS + 4 * heir + (other == next(heir) ? 0 : 2);
            int was = (int) (known.at(state) >> shift) & 3;
            if (was != 0 || depth > DEEPEST) {
                return was == 2;
            }
            int moves = pile.moves(state, heir);
            int steps = pile.steps();
            boolean free = moves == 0;
            for (int step = 0; step < steps && !free; step++) {
                if ((moves >> step & 1) != 0) {
                    free = !escapes(pile.behind(state, step), other, heir, depth + 1);
                }
            }
            known.set(state, known.at(state) | (free ? 2L : 1L) << shift);
            return free;
        }
    }

    /**
     * Changes of the pile. A pile changed: a part of the few THINGS, and what was laid, at most two: on
     * which THING (by its new number), on none, or nothing; the lesser one of both first.
     */
    private static final class Changes {
        static final int LAID = 20;
        static final int LAID_ON_NONE = 34;
        private static final int ON_NONE = 8;
        private static final int NOTHING = 9;
        private static final int LAYINGS = 10;

        private final Few few;
        private final Pile pile;
        // for each HEIR two bits (1: it loses, 2: it wins), behind the number of the pile for which they hold
        private int[] known = new int[0];
        private int round = 0;
        private int version = NONE;
        private int there = 0;
        private int ending = 0;
        private int turn = 0;
        private boolean winsNow = false;
        private int first = NONE;
        private int second = NONE;

        Changes(Pile pile) {
            this.pile = pile;
            this.few = new Few(pile);
        }

        int firstChange() {
            return first;
        }

        int secondChange() {
            return second;
        }

        /** What is known of another pile, or by another END, holds no more. */
        private void look(int nowThere, int heir, int end) {
            if (known.length == 0) {
                known = new int[(1 << Few.MOST) * LAYINGS * LAYINGS];
            }
            if (round == 0 || version != pile.version() || there != nowThere || ending != end) {
                round++;
                version = pile.version();
                there = nowThere;
                ending = end;
                few.lay(nowThere);
            }
            turn = heir;
            winsNow = victory(few.all(), NOTHING, NOTHING, heir, 0);
        }

        /** The single changes that turn who wins, as bits of their numbers. */
        long turning(int nowThere, int heir, int end) {
            look(nowThere, heir, end);
            long bits = 0;
            for (int c = 0; c < kinds(); c++) {
                if (turns(partBy(few.all(), c), NOTHING, laidBy(c))) {
                    bits |= 1L << named(c);
                }
            }
            return bits;
        }

        /** The fewest changes that turn it: 1 or 2, which firstChange() and secondChange() tell, or -2. */
        int fewest(int nowThere, int heir, int end) {
            look(nowThere, heir, end);
            int all = few.all();
            for (int c = 0; c < kinds(); c++) {
                if (turns(partBy(all, c), NOTHING, laidBy(c))) {
                    first = named(c);
                    return 1;
                }
            }
            for (int c = 0; c < kinds(); c++) {
                int d = secondBehind(partBy(all, c), laidBy(c));
                if (d != NONE) {
                    first = named(c);
                    second = named(d);
                    return 2;
                }
            }
            return CANNOT;
        }

        private int secondBehind(int part, int laid) {
            for (int d = 0; d < kinds(); d++) {
                if (stands(part, d) && turns(partBy(part, d), laid, laidBy(d))) {
                    return d;
                }
            }
            return NONE;
        }

        /** Changes are numbered: each THING gone, then each laid on, then on none. */
        private int kinds() {
            return 2 * few.many() + 1;
        }

        /** What the document calls a change. */
        private int named(int c) {
            int many = few.many();
            return c < many ? few.thingAt(c) : c < 2 * many ? LAID + few.thingAt(c - many) : LAID_ON_NONE;
        }

        private boolean stands(int part, int c) {
            int many = few.many();
            return c >= 2 * many || (part >> (c < many ? c : c - many) & 1) != 0;
        }

        private int partBy(int part, int c) {
            return c < few.many() ? few.behind(part, c) : part;
        }

        private int laidBy(int c) {
            int many = few.many();
            return c < many ? NOTHING : c < 2 * many ? c - many : ON_NONE;
        }

        private boolean turns(int part, int laid, int alsoLaid) {
            return victoryBehind(part, laid, alsoLaid, turn, 0) != winsNow;
        }

        /** As victory(), of what is left of what was laid when just a part of the THINGS is THERE. */
        private boolean victoryBehind(int part, int laid, int alsoLaid, int heir, int depth) {
            int one = left(part, laid);
            int other = left(part, alsoLaid);
            return victory(part, Math.min(one, other), Math.max(one, other), heir, depth);
        }

        private static int left(int part, int laid) {
            return laid < ON_NONE && (part >> laid & 1) == 0 ? NOTHING : laid;
        }

        private boolean victory(int part, int one, int other, int heir, int depth) {
            int at = (part * LAYINGS + one) * LAYINGS + other;
            if (at < 0 || at >= known.length || depth > DEEPEST) {
                return false;
            }
            int was = known[at] >> 4 == round ? known[at] >> 2 * heir & 3 : 0;
            if (was != 0) {
                return was == 2;
            }
            boolean wins = few.takes(part, heir) == 0 && one == NOTHING
                ? ending == 1
                : winsByLaid(part, one, other, heir, depth) || winsByThings(part, one, other, heir, depth);
            int kept = known[at] >> 4 == round ? known[at] : round << 4;
            known[at] = kept | (wins ? 2 : 1) << 2 * heir;
            return wins;
        }

        private boolean winsByLaid(int part, int one, int other, int heir, int depth) {
            if (one != NOTHING && !victory(part, other, NOTHING, 1 - heir, depth + 1)) {
                return true;
            }
            return other != NOTHING && other != one && !victory(part, one, NOTHING, 1 - heir, depth + 1);
        }

        private boolean winsByThings(int part, int one, int other, int heir, int depth) {
            int takes = few.takes(part, heir);
            for (int k = 0; k < few.many(); k++) {
                if ((takes >> k & 1) != 0
                        && !victoryBehind(few.behind(part, k), one, other, 1 - heir, depth + 1)) {
                    return true;
                }
            }
            return false;
        }
    }
}
