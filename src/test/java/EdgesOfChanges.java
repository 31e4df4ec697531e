/** Edges of promises 40 and 41: the least change. */
final class EdgesOfChanges {
    private static final String EIGHT = "1:3;".repeat(7) + "1:3";

    private final Edges e;
    private final Due d;

    EdgesOfChanges(Edges e) {
        this.e = e;
        this.d = e.d;
    }

    void test() {
        ofNothing();
        numbered();
        bothWays();
        leastRow();
        secondBehind();
        goneWithAll();
        twoDoNot();
        tooMany();
        back();
        singles();
        singlesTooMany();
    }

    // ---- promise 40

    private void ofNothing() {
        e.says(40, "lies on one that is THERE (or on none)");
        AllAboveIt x = new AllAboveIt();
        d.due("no THINGS", x.change(), x, 1, 34);
        x.ends(1);
        d.due("no THINGS by END 1", x.change(), x, 1, 34);
        x = Due.piled("1:3;1:3^0");
        x.move(0);
        d.due("nothing THERE", x.change(), x, 1, 34);
    }

    private void numbered() {
        e.says(40, "THING i: it is gone: i; laid on it: 20 + i; on none: 34");
        AllAboveIt x = Due.piled("1:3;".repeat(12) + "1:4;1:4");
        for (int i = 0; i < 12; i++) {
            x.move(i);
        }
        d.due("laid on 12", x.change(), x, 1, 32);
        d.due("12 gone, 13 gone do not; 13 and none do", x.single(), x, 3, 0, 3 << 12, 1);
        AllAboveIt y = Due.piled("1:3;".repeat(13) + "1:3");
        for (int i = 0; i < 13; i++) {
            y.move(i);
        }
        d.due("13 is gone", y.change(), y, 1, 13);
    }

    private void bothWays() {
        e.says(40, "whoever is on turn would win, if it loses now, or lose, if it wins");
        AllAboveIt x = Due.piled("1:3");
        d.due("it wins", x.change(), x, 1, 0);
        x = Due.piled("1:3;1:3");
        d.due("it loses", x.change(), x, 1, 0);
        x.ends(1);
        d.due("it wins by END 1", x.change(), x, 1, 0);
        x.move(0);
        d.due("HEIR 1 loses by END 1", x.change(), x, 1, 1);
        // the same is THERE, another one on turn
        x = Due.piled("1:3;1:3^0;1:1");
        x.move(0);
        d.due("HEIR 1 loses", x.single(), x, 0, 0, 0, 0);
        x.begin();
        x.move(1);
        x.move(0);
        d.due("HEIR 0 wins", x.single(), x, 1, 4, 0, 0);
        d.due("HEIR 0 wins", x.change(), x, 1, 2);
    }

    private void leastRow() {
        e.says(40, "of as few the least row (as numbers)");
        AllAboveIt x = Due.piled("1:1;1:1");
        // HEIR 1 never has a MOVE: by two that are gone HEIR 0 has none either
        d.due("two are gone: 0 ahead of 1", x.change(), x, 2, 0, 1);
        x = Due.piled("1:3;1:3^0;1:3^0");
        // it is lost without 0, not without 1 or 2; HEIRS take 0 at once
        d.due("0 is gone", x.change(), x, 1, 0);
        x.move(1);
        x.move(2);
        d.due("HEIR 0 with 0 alone", x.change(), x, 1, 0);
        x = Due.piled("1:2;1:4");
        // nothing of HEIR 0's: 34 alone and 1 gone leave HEIR 1 the last MOVE
        d.due("0 is gone, then on 1 ahead of on none", x.change(), x, 2, 0, 21);
    }

    private void secondBehind() {
        e.says(40, "(a second one is of what is THERE behind the first, not of what was laid)");
        AllAboveIt x = Due.piled("1:2");
        // laid on 0 would be 20, less than 34; but 0 is gone
        d.due("on none, as 0 is gone", x.change(), x, 2, 0, 34);
        x = Due.piled("1:2;1:2^0");
        d.due("on none, as both are gone", x.change(), x, 2, 0, 34);
    }

    private void goneWithAll() {
        e.says(40, "a THING that is THERE is gone with all ABOVE it, or a THING more (of all HEIRS)");
        AllAboveIt x = Due.piled("1:1;1:1^0;1:1^1");
        d.due("all three by one", x.change(), x, 1, 0);
        x = Due.piled("1:4");
        // of all HEIRS: what is laid HEIR 0 takes, and HEIR 1 has none
        d.due("laid on what neither may take", x.change(), x, 1, 20);
        x = Due.piled("1:4;1:4");
        x.begin();
        d.due("the lowest to lay on", x.change(), x, 1, 20);
    }

    private void twoDoNot() {
        e.says(40, "-2: two do not do");
        AllAboveIt x = Due.piled("1:1;1:1;1:1");
        x.limits();
        d.due("three of HEIR 0's", x.change(), x, -2, 0, 3);
        x = Due.piled("1:1;".repeat(7) + "1:1");
        d.due("eight of HEIR 0's", x.change(), -2);
    }

    private void tooMany() {
        e.says(40, "-3: more than 8 THINGS are THERE, or some are BACK.");
        AllAboveIt x = Due.piled(EIGHT);
        d.due("eight", x.change(), x, 1, 0);
        Due.piles(x, "1:3");
        x.limits();
        d.due("nine", x.change(), x, -3, -9, 9);
        x.move(0);
        d.due("eight THERE", x.change(), x, 1, 1);
        Due.piles(x, "1:3;1:3;1:3;1:3;1:3");
        d.due("fourteen", x.change(), -3);
        for (int i = 0; i < 6; i++) {
            d.due("MOVES", x.move(i), 1 << i);
        }
        d.due("the last eight of fourteen", x.change(), x, 1, 6);
    }

    private void back() {
        e.says(40, "or some are BACK");
        AllAboveIt x = Due.piled("1:3r");
        x.limits();
        d.due("THERE", x.change(), x, -3, -1, 1);
        x.move(0);
        d.due("gone", x.change(), -3);
        x.move(14);
        x.move(0);
        d.due("gone, put back already", x.change(), -3);
    }

    // ---- promise 41

    private void singles() {
        e.says(41, "How many such single changes (0 .. 13, 20 .. 33, 34) turn it");
        AllAboveIt x = new AllAboveIt();
        d.due("no THINGS", x.single(), x, 1, 0, 0, 1);
        x = Due.piled(EIGHT);
        d.due("eight: each of them", x.single(), x, 17, 255, 255, 1);
        x = Due.piled("1:3;".repeat(13) + "1:3");
        for (int i = 0; i < 6; i++) {
            x.move(i);
        }
        d.due("the last eight of fourteen", x.single(), x, 17, 255 << 6, 255 << 6, 1);
        x = Due.piled("1:1;1:1;1:1");
        d.due("none", x.single(), x, 0, 0, 0, 0);
        // END 1: HEIR 0 has to take the eighth, unless HEIR 1 has something to take behind it
        x = Due.piled("1:4;".repeat(7) + "1:1");
        x.ends(1);
        d.due("on the eighth is not on none", x.single(), x, 9, 128, 127, 1);
        e.says(41, "1 if 34 does, else 0");
        x = Due.piled("1:1");
        d.due("it does not", x.single(), x, 1, 1, 0, 0);
        x = Due.piled("1:4");
        d.due("it does", x.single(), x, 2, 0, 1, 1);
    }

    private void singlesTooMany() {
        e.says(41, "-3 likewise.");
        AllAboveIt x = Due.piled(EIGHT);
        Due.piles(x, "1:3");
        x.limits();
        d.due("nine", x.single(), x, -3, -9, 9);
        x.move(8);
        d.due("eight THERE", x.single(), 17);
        x = Due.piled("1:3r");
        d.due("BACK", x.single(), -3);
        x.move(0);
        d.due("BACK, nothing THERE", x.single(), -3);
        x.move(14);
        x.move(0);
        d.due("put back already", x.single(), -3);
    }
}
