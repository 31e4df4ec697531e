/** Edges of END and of promises 14 to 21. */
final class EdgesOfWins {
    private static final int MIN = Integer.MIN_VALUE;
    private static final int MAX = Integer.MAX_VALUE;
    private static final String FOURTEEN = "1:3;".repeat(13) + "1:3";
    private static final String TWO_BACK = "1:3r;1:3r;" + "1:3;".repeat(11) + "1:3";

    private final Edges e;
    private final Due d;

    EdgesOfWins(Edges e) {
        this.e = e;
        this.d = e.d;
    }

    void test() {
        noMove();
        toldSince();
        winsByMoves();
        wouldOthers();
        soonNone();
        leaving();
        statesCounted();
        linesCounted();
        forcedNone();
        tempoNone();
    }

    private void noMove() {
        e.says(0, "Who is on turn and has no MOVE: END 0: has lost; END 1: has won.");
        String[] piles = {"", "1:4", "1:2;1:2"};
        for (String pile : piles) {
            AllAboveIt x = new AllAboveIt();
            Due.piles(x, pile);
            d.due("'" + pile + "' by END 0", x.wins(), x, 1, 0);
            x.ends(1);
            d.due("'" + pile + "' by END 1", x.wins(), x, 0, 0);
        }
        AllAboveIt y = Due.piled("1:1;1:1");
        y.move(0);
        d.due("HEIR 1 by END 0", y.wins(), y, 0, 0);
        y.ends(1);
        d.due("HEIR 1 by END 1", y.wins(), y, 1, 0);
    }

    /** What is known of a pile holds no more when THINGS were told. */
    private void toldSince() {
        e.says(14, "Who wins from now on (0, 1)");
        AllAboveIt x = Due.piled("1:3r");
        for (int k = 2; k <= 14; k++) {
            // as many THINGS on none as HEIRS take in turn, with one that is taken twice and put back between
            d.due("THINGS ahead of the next: " + (k - 1), x.wins(), (k - 1) % 2 == 0 ? 1 : 0);
            d.due("soon()", x.soon(), k + 1);
            d.due("value()", x.value(), (k - 1) % 2);
            d.due("one more", Due.piles(x, "1:3"), 1);
        }
        d.due("fourteen", x.wins(), 1);
        d.due("to take the second", x.move(1), 2);
        d.due("to take the first", x.move(0), 1);
        d.due("to put it back", x.move(14), 0);
    }

    private void winsByMoves() {
        e.says(14, "MOVES (bits) by which whoever is on turn wins");
        AllAboveIt x = Due.piled(FOURTEEN);
        d.due("none of fourteen", x.wins(), x, 1, 0);
        x.ends(1);
        d.due("all fourteen", x.wins(), x, 0, (1 << 14) - 1);
        AllAboveIt b = Due.piled(TWO_BACK);
        d.due("none, though two are BACK", b.wins(), b, 1, 0);
        b.move(0);
        d.due("all that are left, and to put back", b.wins(), b, 1, (1 << 15) - 2);
        AllAboveIt y = Due.piled("1:3;1:3^0;1:3^1;1:3;1:3^3");
        d.due("just one", y.wins(), y, 0, 4);
    }

    private void wouldOthers() {
        e.says(15, "NONE: others.");
        AllAboveIt x = Due.piled("1:3");
        int[] others = {-1, 2, 3, MIN, MAX};
        for (int v : others) {
            d.due("would(" + v + ", 0)", x.would(v, 0), -1);
            d.due("would(0, " + v + ")", x.would(0, v), -1);
            d.due("would(" + v + ", " + v + ")", x.would(v, v), -1);
        }
        e.says(15, "if an HEIR (0, 1) was on turn now, by an END");
        for (int k = 0; k < 4; k++) {
            int heir = k & 1;
            int end = k >> 1;
            d.due("one THING: would(" + heir + ", " + end + ")", x.would(heir, end), end == 0 ? heir : 1 - heir);
            d.due("no THINGS: would(" + heir + ", " + end + ")", new AllAboveIt().would(heir, end),
                end == 0 ? 1 - heir : heir);
        }
        d.due("END", x.count(5), 0);
        d.due("on turn", x.count(3), 0);
    }

    private void soonNone() {
        e.says(16, "(NONE, if there is none)");
        AllAboveIt x = new AllAboveIt();
        d.due("no THINGS", x.soon(), x, 0, -1);
        x.ends(1);
        d.due("no THINGS by END 1", x.soon(), x, 0, -1);
        x = Due.piled("1:2");
        d.due("not its own", x.soon(), x, 0, -1);
        e.says(16, "if who wins wins as soon as can be, and the other one holds out as long as can be");
        x = Due.piled("1:3;1:3^0;1:3^1");
        d.due("at once", x.soon(), x, 1, 0);
        x.ends(1);
        d.due("all but one", x.soon(), x, 2, 1);
        AllAboveIt full = Due.piled(FOURTEEN);
        d.due("fourteen", full.soon(), full, 14, 0);
        AllAboveIt back = Due.piled(TWO_BACK);
        d.due("two BACK: the longest of all", back.soon(), back, 18, 0);
        AllAboveIt y = Due.piled("1:3;1:3^0;1:3;1:3^2");
        d.due("two towers: the first that holds out", y.soon(), y, 4, 1);
        AllAboveIt w = Due.piled("1:1;1:1;1:2^1");
        // by 0 it wins in three, by 1 at once
        d.due("not the first that wins, but the soonest", w.soon(), w, 1, 1);
        w = Due.piled("1:1;1:2^0;1:1");
        // by 0 it wins at once, by 2 in three
        d.due("not the last that wins either", w.soon(), w, 1, 0);
        w = Due.piled("1:3;1:3;1:1");
        w.move(0);
        w.move(1);
        d.due("what is gone is no MOVE", w.soon(), w, 1, 2);
        w = Due.piled("1:3;1:2;1:2;1:1^2");
        w.move(0);
        d.due("so HEIR 1", w.soon(), w, 1, 2);
        AllAboveIt z = Due.piled("1:1;1:3;1:3");
        // HEIR 0 wins by each; HEIR 1 takes one as long as it can
        d.due("the first that does so", z.soon(), z, 3, 0);
    }

    private void leaving() {
        e.says(17, "1 if it had to (it wins by that alone), else 0");
        AllAboveIt x = new AllAboveIt();
        d.due("no THINGS", x.leave(), x, 0, 1);
        x.ends(1);
        d.due("no THINGS by END 1", x.leave(), x, 0, 0);
        x = Due.piled("1:3");
        d.due("it wins anyhow", x.leave(), x, 0, 0);
        x = Due.piled("1:3;1:3");
        d.due("it had to", x.leave(), x, 0, 1);
        x = Due.piled("1:2");
        d.due("it loses anyhow", x.leave(), x, 1, 0);
        x = Due.piled("1:1;1:1");
        x.move(0);
        d.due("HEIR 1 loses anyhow", x.leave(), x, 0, 0);
        x = Due.piled("1:3;1:3;1:3");
        x.move(0);
        d.due("HEIR 1 had to", x.leave(), x, 1, 1);
        d.due("nothing changes", x.count(3), 1);
    }

    private void statesCounted() {
        e.says(18, "(by MOVES of both in any order, each in turn, with who is on turn)");
        AllAboveIt x = new AllAboveIt();
        d.due("no THINGS", x.states(), x, 1, 1);
        x.ends(1);
        d.due("no THINGS by END 1", x.states(), x, 1, 0);
        x = Due.piled("1:3;1:3^0");
        // {0, 1}: 0; {0}: 1; {}: 0 and 1
        d.due("the same STATE, another one on turn", x.states(), x, 4, 2);
        x = Due.piled("1:2;1:2");
        d.due("who has no MOVE ends it", x.states(), x, 1, 1);
        AllAboveIt full = Due.piled(FOURTEEN);
        d.due("fourteen", full.states(), full, 1 << 14, 1 << 13);
        full.ends(1);
        d.due("fourteen by END 1", full.states(), full, 1 << 14, 1 << 13);
        AllAboveIt back = Due.piled(TWO_BACK);
        d.due("two BACK: all STATES", back.states(), back, 1 << 16, 1 << 15);
        back.move(0);
        // without those in which 0 is THERE and was not put back
        d.due("one MOVE later", back.states(), back, 3 << 14, 3 << 13);
        d.due("asked again", back.states(), back, 3 << 14, 3 << 13);
    }

    private void linesCounted() {
        e.says(19, "How many games of just n MOVES (0 .. 5) there are");
        AllAboveIt x = new AllAboveIt();
        d.due("no THINGS: lines(0)", x.lines(0), 1);
        for (int n = 1; n <= 5; n++) {
            d.due("no THINGS: lines(" + n + ")", x.lines(n), 0);
        }
        x = Due.piled("1:3;1:3;1:3;1:3;1:3");
        d.due("five: lines(5)", x.lines(5), 120);
        x.move(0);
        d.due("four: lines(4)", x.lines(4), 24);
        d.due("four: lines(5)", x.lines(5), 0);
        AllAboveIt full = Due.piled(FOURTEEN);
        d.due("fourteen: lines(5)", full.lines(5), 14 * 13 * 12 * 11 * 10);
        e.says(19, "NONE: another n.");
        int[] others = {-1, 6, 7, MIN, MAX};
        for (int n : others) {
            d.due("lines(" + n + ")", x.lines(n), -1);
        }
    }

    private void forcedNone() {
        e.says(20, "as long as whoever is on turn has just one: how many; the ROW: they (20 at most)");
        AllAboveIt x = new AllAboveIt();
        x.taken();
        d.due("no THINGS: a ROW of none", x.forced(), x, 0);
        x = Due.piled("1:3;1:3");
        x.taken();
        d.due("two MOVES: a ROW of none", x.forced(), x, 0);
        x.move(0);
        d.due("one", x.forced(), x, 1, 1);
        x = Due.piled("1:2;1:2");
        x.taken();
        d.due("no MOVE", x.forced(), x, 0);
        x = Due.piled("1:1;1:2;1:4");
        d.due("each its own", x.forced(), x, 2, 0, 1);
        x = Due.piled("1:1;1:2;1:2");
        d.due("till there is a choice", x.forced(), x, 1, 0);
        x = Due.piled("1:1r");
        d.due("to put back", x.forced(), x, 3, 0, 14, 0);
        x = Due.piled("1:3;".repeat(13) + "1:1r");
        for (int i = 0; i < 13; i++) {
            x.move(i);
        }
        x.ends(1);
        d.due("HEIR 1 has none", x.forced(), x, 0);
        d.due("nothing changes", x.count(2), 13);
    }

    private void tempoNone() {
        e.says(21, "NONE: none such.");
        AllAboveIt x = Due.piled("1:3");
        x.limits();
        int[] none = {-1, 3, 4, MIN, MAX};
        for (int heir : none) {
            d.due("tempo(" + heir + ")", x.tempo(heir), x, -1, -1, 1);
        }
        e.says(21, "the fewest, till it can make none");
        AllAboveIt y = new AllAboveIt();
        for (int heir = 0; heir <= 2; heir++) {
            d.due("no THINGS: tempo(" + heir + ")", y.tempo(heir), y, 0, 0);
        }
        AllAboveIt tower = Due.piled("1:7;1:7^0;1:7^1;1:7^2;1:7^3;1:7^4;1:7^5;1:7^6;1:7^7;1:7^8;1:7^9");
        Due.piles(tower, "1:7^10;1:7^11;1:7^12");
        d.due("a tower of fourteen", tower.tempo(2), tower, 14, 1);
        AllAboveIt side = Due.piled("1:7;".repeat(13) + "1:7");
        d.due("fourteen on none", side.tempo(2), side, 14, 14);
        AllAboveIt other = Due.piled("1:1;1:4^0;1:1^1;1:4");
        d.due("what lies between is another one's", other.tempo(0), other, 2, 1);
        d.due("the lowest is another one's", other.tempo(2), other, 2, 2);
        AllAboveIt two = Due.piled("1:2;1:1;1:1^1;1:1^0;1:1^3");
        d.due("two towers, the feet at 1 and 3", two.tempo(0), two, 4, 2);
        e.says(21, "nobody else making any, nothing put back");
        AllAboveIt back = Due.piled("1:3r;1:3r");
        d.due("two BACK", back.tempo(0), back, 2, 2);
        back.move(0);
        d.due("one gone", back.tempo(0), back, 1, 1);
    }
}
