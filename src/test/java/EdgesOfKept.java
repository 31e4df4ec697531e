/** Edges of the ROW and of promises 42 to 45. */
final class EdgesOfKept {
    private static final int MIN = Integer.MIN_VALUE;
    private static final int MAX = Integer.MAX_VALUE;

    private final Edges e;
    private final Due d;

    EdgesOfKept(Edges e) {
        this.e = e;
        this.d = e.d;
    }

    void test() {
        keepOthers();
        keepAll();
        keepAnew();
        againNothing();
        againTold();
        countWhat();
        rowNone();
        rowLast();
    }

    private void keepOthers() {
        e.says(42, "Refused: others.");
        AllAboveIt x = Due.piled("1:3;1:3");
        int[] others = {-1, 3, 4, MIN, MAX};
        for (int i : others) {
            d.due("keep(" + i + ")", x.keep(i), false);
            d.due("again(" + i + ")", x.again(i), false);
        }
        for (int i = 0; i <= 2; i++) {
            d.due("nothing under " + i, x.again(i), false);
        }
        e.says(42, "are kept under a number 0 .. 2: true");
        for (int i = 0; i <= 2; i++) {
            d.due("keep(" + i + ")", x.keep(i), true);
            d.due("again(" + i + ")", x.again(i), true);
            d.due("no THINGS: keep(" + i + ")", new AllAboveIt().keep(i), true);
        }
    }

    private void keepAll() {
        e.says(42, "THINGS THERE, what was put back, who is on turn, MOVES, END");
        AllAboveIt x = Due.piled("1:3r;2:3;4:3");
        x.keep(0);
        x.move(0);
        x.move(14);
        x.move(1);
        x.ends(1);
        x.keep(2);
        x.again(0);
        int[] atFirst = {3, 7, 0, 0, 0, 0};
        for (int what = 0; what <= 5; what++) {
            d.due("again(0): count(" + what + ")", x.count(what), atFirst[what]);
        }
        x.again(2);
        int[] later = {3, 5, 3, 1, 1, 1};
        for (int what = 0; what <= 5; what++) {
            d.due("again(2): count(" + what + ")", x.count(what), later[what]);
        }
        d.due("MOVES: taken()", x.taken(), x, 3, 3, 0);
        d.due("MOVES: undo()", x.undo(), 2);
        d.due("MOVES: undo()", x.undo(), 1);
        d.due("MOVES: put back no more", x.count(4), 0);
        d.due("MOVES: undo()", x.undo(), 0);
        d.due("MOVES: undo()", x.undo(), -1);
        x.move(2);
        x.move(0);
        d.due("other MOVES made since: again(2)", x.again(2), true);
        d.due("MOVES: taken()", x.taken(), x, 3, 3, 0);
        d.due("MOVES: undo()", x.undo(), 2);
        d.due("MOVES: THERE", x.count(1), 7);
        d.due("MOVES: undo()", x.undo(), 1);
        d.due("MOVES: THERE", x.count(1), 6);
        // WORTHS and who likes whom are none of these
        x.sheet(2, 3, 5, 0);
        x.likes(0, 2);
        x.again(2);
        d.due("WORTHS stay", x.thing(1, 0), 5);
    }

    private void keepAnew() {
        e.says(43, "They are as they were kept under a number.");
        AllAboveIt x = Due.piled("1:3;1:3;1:3");
        x.keep(1);
        x.move(0);
        x.keep(0);
        x.move(1);
        x.keep(1);
        x.again(0);
        d.due("under 0", x.count(2), 1);
        x.move(2);
        d.due("MOVES behind do not change it", x.again(0), true);
        d.due("under 0", x.count(1), 6);
        x.again(1);
        d.due("under 1, anew", x.count(2), 2);
        x.begin();
        x.again(1);
        d.due("twice", x.count(1), 4);
        d.due("under 2", x.again(2), false);
    }

    private void againNothing() {
        e.says(43, "Refused: nothing kept");
        AllAboveIt x = Due.piled("1:3;1:3");
        x.move(0);
        for (int i = 0; i <= 2; i++) {
            d.due("again(" + i + ")", x.again(i), false);
        }
        x.keep(1);
        x.move(1);
        d.due("another number: 0", x.again(0), false);
        d.due("another number: 2", x.again(2), false);
        int[] none = {-1, 3, MIN, MAX};
        for (int i : none) {
            d.due("again(" + i + ")", x.again(i), false);
        }
        d.due("MOVES", x.count(2), 2);
        d.due("THERE", x.count(1), 0);
    }

    private void againTold() {
        e.says(43, "THINGS were told since");
        AllAboveIt x = Due.piled("1:3;1:3");
        for (int i = 0; i <= 2; i++) {
            x.keep(i);
        }
        x.move(0);
        d.due("a text that was refused", Due.piles(x, "1:3;"), -5);
        d.due("then", x.again(0), true);
        d.due("a text", Due.piles(x, "1:3"), 1);
        for (int i = 0; i <= 2; i++) {
            d.due("then again(" + i + ")", x.again(i), false);
        }
        d.due("THERE", x.count(1), 7);
        x.keep(0);
        d.due("kept since", x.again(0), true);
        AllAboveIt y = new AllAboveIt();
        y.keep(0);
        d.due("no THINGS", y.again(0), true);
        Due.piles(y, "1:3");
        d.due("the first were told since", y.again(0), false);
    }

    private void countWhat() {
        e.says(44, "NONE for another what.");
        AllAboveIt x = Due.piled("1:3r;1:3;1:3");
        int[] others = {-1, 8, 9, MIN, MAX};
        for (int what : others) {
            d.due("count(" + what + ")", x.count(what), -1);
        }
        e.says(44, "What 0: THINGS, 1: those THERE (bits), 2: MOVES made, 3: who is on turn, "
            + "4: those of BACK put back (bits), 5: END, 6: numbers of the ROW, 7: signs of THE TEXT.");
        x.move(0);
        x.move(14);
        x.move(1);
        x.ends(1);
        x.parrots();
        Due.write(x, "z".repeat(80));
        int[] want = {3, 5, 3, 1, 1, 1, 3, 80};
        for (int what = 0; what <= 7; what++) {
            d.due("count(" + what + ")", x.count(what), want[what]);
        }
    }

    private void rowNone() {
        e.says(45, "NoSuchElementException: none such.");
        AllAboveIt x = new AllAboveIt();
        int[] none = {-1, 0, 1, 19, 20, MIN, MAX};
        for (int i : none) {
            d.due("nothing told: row(" + i + ")", Due.rowThrows(x, i), true);
        }
        x.parrots();
        for (int i = 0; i <= 2; i++) {
            d.due("three: row(" + i + ")", Due.rowThrows(x, i), false);
        }
        int[] of3 = {-1, 3, 4, 19, 20, MIN, MAX};
        for (int i : of3) {
            d.due("three: row(" + i + ")", Due.rowThrows(x, i), true);
        }
        x.forced();
        d.due("none told: row(0)", Due.rowThrows(x, 0), true);
    }

    private void rowLast() {
        e.says(0, "ROW: numbers told last by a call that says so.");
        AllAboveIt x = Due.piled("1:1;2:2;3:1;4:2");
        x.parrots();
        d.due("three", x.count(6), 3);
        x.limits();
        d.dueRow("two", x, -6, 4);
        x.would(0, 0);
        x.lines(2);
        x.alone(3);
        x.heap(0);
        x.make(0);
        x.joined();
        x.alike(0, 1);
        x.gets(0, 3);
        x.out(0);
        x.may(0);
        x.move(0);
        x.undo();
        x.begin();
        x.sheet(2, 4, 1, 1);
        x.ends(1);
        x.likes(0, 2);
        x.keep(0);
        x.again(0);
        x.count(6);
        x.thing(0, 0);
        Due.piles(x, "5:3");
        d.dueRow("calls that say nothing of it", x, -6, 4);
        x.wins();
        d.due("one", x.count(6), 1);
    }
}
