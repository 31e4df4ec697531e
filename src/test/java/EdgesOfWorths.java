/** Edges of fractions and of promises 30 to 34. */
final class EdgesOfWorths {
    private static final int MIN = Integer.MIN_VALUE;
    private static final int MAX = Integer.MAX_VALUE;
    private static final String SIX = "1:3;".repeat(5) + "1:3";

    private final Edges e;
    private final Due d;

    EdgesOfWorths(Edges e) {
        this.e = e;
        this.d = e.d;
    }

    void test() {
        bestNone();
        bestAlone();
        bestFirst();
        getsOthers();
        getsPutBack();
        greedyFirst();
        greedyNothing();
        limitsSame();
        limitsNow();
        fractions();
        meanTooMany();
        meanBack();
    }

    // ---- promise 30

    private void bestNone() {
        e.says(30, "(NONE, if it has none)");
        AllAboveIt x = new AllAboveIt();
        d.due("no THINGS", x.best(), x, 0, -1);
        x = Due.piled("9:2");
        d.due("not its own", x.best(), x, 0, -1);
        x = Due.piled("9:1");
        x.move(0);
        d.due("gone", x.best(), x, 0, -1);
    }

    private void bestAlone() {
        e.says(30, "(END does not count; who has no MOVE ends it; what is put back counts nothing)");
        AllAboveIt x = Due.piled("0:1;9:2");
        // who has no MOVE ends it: HEIR 1 could go on, if HEIR 0 had one more
        d.due("it has to take what is worth nothing", x.best(), x, -9, 0);
        x.ends(1);
        d.due("by END 1", x.best(), x, -9, 0);
        x = Due.piled("5:1r");
        d.due("taken, put back by the other one, taken again", x.best(), x, 10, 0);
        x.move(0);
        d.due("HEIR 1 has to put it back", x.best(), x, -5, 14);
        x = Due.piled("9:3;".repeat(13) + "9:3");
        d.due("fourteen of 9", x.best(), x, 0, 0);
        x = Due.piled("9:1;".repeat(13) + "9:1^0");
        d.due("all of 9, all HEIR 0's", x.best(), x, 18, 0);
    }

    private void bestFirst() {
        e.says(30, "by how much whoever is on turn gets more than the other one, from now on");
        AllAboveIt y = Due.piled("9:3;5:3;1:3");
        y.move(0);
        d.due("HEIR 1, behind what HEIR 0 has got", y.best(), y, 4, 1);
        e.says(30, "its first best MOVE");
        AllAboveIt x = Due.piled("1:3;4:3;4:3;2:3");
        d.due("of two as good the first", x.best(), x, 1, 1);
        x = Due.piled("1:3;3:3;3:3");
        d.due("of three as good the first", x.best(), x, 1, 0);
        x = Due.piled("0:3;0:3");
        d.due("of none that is worth", x.best(), x, 0, 0);
        x = Due.piled("0:3r;0:3");
        x.move(0);
        d.due("to take ahead of to put back", x.best(), x, 0, 1);
    }

    // ---- promise 31

    private void getsOthers() {
        e.says(31, "NONE: others.");
        AllAboveIt x = Due.piled("1:3;2:3");
        int[] heirs = {-1, 2, 3, MIN, MAX};
        for (int heir : heirs) {
            d.due("gets(" + heir + ", 1)", x.gets(heir, 1), -1);
        }
        int[] things = {4, 5, 1 << 13, 1 << 14, MIN, MAX, -1};
        for (int some : things) {
            d.due("gets(0, " + some + ")", x.gets(0, some), -1);
            d.due("gets(1, " + some + ")", x.gets(1, some), -1);
        }
        d.due("no THINGS: gets(0, 1)", new AllAboveIt().gets(0, 1), -1);
        e.says(31, "just the THINGS told as bits were THERE");
        d.due("none", x.gets(0, 0), 0);
        d.due("all", x.gets(1, 3), 1);
        x.move(0);
        x.move(1);
        d.due("whatever is THERE", x.gets(0, 3), 1);
        AllAboveIt full = Due.piled("9:2;".repeat(13) + "9:2");
        d.due("all fourteen, HEIR 1's", full.gets(1, (1 << 14) - 1), 9);
        d.due("all fourteen, not HEIR 0's", full.gets(0, (1 << 14) - 1), 0);
        d.due("no THINGS: gets(1, 0)", new AllAboveIt().gets(1, 0), 0);
    }

    private void getsPutBack() {
        e.says(31, "and nothing could be put back");
        AllAboveIt x = Due.piled("5:1r");
        d.due("once", x.gets(0, 1), 5);
        d.due("as it is it would be", x.best(), 10);
        d.due("of none", x.gets(1, 0), 0);
    }

    // ---- promise 32

    private void greedyFirst() {
        e.says(32, "(of equal ones the first; nothing is put back)");
        AllAboveIt x = Due.piled("4:1;4:3;9:2^1");
        // 1 is worth 13 with 2, then nothing is left for HEIR 1
        d.due("with what is ABOVE", x.greedy(), x, 1, 13, 0);
        x = Due.piled("4:3;4:1;1:2");
        d.due("the first of two", x.greedy(), x, 3, 8, 1);
        x = Due.piled("0:3r;0:3r");
        d.due("of no WORTH, nothing put back", x.greedy(), x, 2, 0, 0);
        x.move(0);
        d.due("one gone", x.greedy(), x, 1, 0, 0);
    }

    private void greedyNothing() {
        e.says(32, "till whoever is on turn can take nothing: how many MOVES; "
            + "the ROW: of whoever is on turn now, of the other one");
        AllAboveIt x = new AllAboveIt();
        d.due("no THINGS", x.greedy(), x, 0, 0, 0);
        x = Due.piled("9:2");
        d.due("not its own", x.greedy(), x, 0, 0, 0);
        x = Due.piled("9:1;9:1");
        d.due("the other one has none", x.greedy(), x, 1, 9, 0);
        x = Due.piled("3:3r");
        x.move(0);
        d.due("it could put back, but not take", x.greedy(), x, 0, 0, 0);
        x = Due.piled("2:3;3:3;4:3");
        x.move(0);
        d.due("HEIR 1 is on turn now", x.greedy(), x, 2, 4, 3);
        x = Due.piled("9:3;".repeat(13) + "9:3");
        d.due("fourteen", x.greedy(), x, 14, 63, 63);
    }

    // ---- promise 33

    private void limitsSame() {
        e.says(33, "1, if both are the same, else 0");
        AllAboveIt x = new AllAboveIt();
        d.due("no THINGS", x.limits(), x, 1, 0, 0);
        x = Due.piled("9:4");
        d.due("neither's", x.limits(), x, 1, 0, 0);
        x = Due.piled("0:3");
        d.due("of no WORTH", x.limits(), x, 1, 0, 0);
        x = Due.piled("1:1");
        d.due("HEIR 0's", x.limits(), x, 0, 0, 1);
        x = Due.piled("1:2");
        d.due("HEIR 1's", x.limits(), x, 0, -1, 0);
        x = Due.piled("9:3;".repeat(13) + "9:3");
        d.due("all fourteen", x.limits(), x, 0, -126, 126);
    }

    private void limitsNow() {
        e.says(33, "What can be said without looking ahead, of what whoever is on turn gets more (as best())");
        AllAboveIt z = Due.piled("9:3;5:3");
        z.move(0);
        d.due("HEIR 1", z.limits(), z, 0, -5, 5);
        d.due("as best()", z.best(), 5);
        e.says(33, "(less all that the other one could ever take now: each THING it may take, and all ABOVE)");
        AllAboveIt x = Due.piled("1:2;2:1^0;4:4^1;8:2");
        d.due("HEIR 1 could take all", x.limits(), x, 0, -15, 6);
        x.move(1);
        d.due("now HEIR 1: what is THERE", x.limits(), x, 0, 0, 9);
        AllAboveIt y = Due.piled("5:2r;3:1");
        y.begin();
        y.move(1);
        y.move(0);
        d.due("not what could be put back", y.limits(), y, 1, 0, 0);
    }

    // ---- promise 34

    private void fractions() {
        e.says(0, "Fractions are told in lowest terms, upper and lower number (0 by 1).");
        AllAboveIt x = new AllAboveIt();
        d.due("mean() of no THINGS", x.mean(), x, 0, 0, 1);
        d.due("notary(0, 5) of no THINGS", x.notary(0, 5), x, 0, 0, 1);
        d.due("notary(1, 5) of no THINGS", x.notary(1, 5), x, 0, 1, 1);
        x.notary(1, 5);
        d.due("mean() behind notary()", x.mean(), x, 0, 0, 1);
        x = Due.piled("4:3;0:3");
        d.due("4 less 0, 0 less 4", x.mean(), x, 0, 0, 1);
        x = Due.piled("4:3;0:3;0:3");
        d.due("4 by 3", x.mean(), x, 0, 4, 3);
        x = Due.piled("3:3;0:3;0:3");
        d.due("3 by 3", x.mean(), x, 0, 1, 1);
        x = Due.piled("0:1;1:2;0:2;0:2");
        d.due("-1 by 3", x.mean(), x, 0, -1, 3);
        x = Due.piled("1:3;1:3^0");
        d.due("notary(0, 4): 8 by 10", x.notary(0, 4), x, 0, 4, 5);
        // of many piles of six by chance those that go lowest, by 2, by 3, by 5 (the answers are Oracle's)
        x = Due.piled("1:3;6:3^0;6:3^0;8:3;3:1;1:3^1");
        d.due("a mean of 128ths", x.mean(), x, 0, 1509, 640);
        x = Due.piled("7:3;9:5;6:3^1;3:3;0:1;7:1^3");
        d.due("a mean of 27ths", x.mean(), x, 0, 1073, 216);
        x = Due.piled("1:1;5:3;3:3;1:3^1,2;0:2^1,2;2:3");
        d.due("a mean of 25ths", x.mean(), x, 0, 449, 600);
        x = Due.piled("6:3;8:5^0;4:3^0;5:3^1;6:1^3;7:3^2");
        d.due("a chance of 4096ths", x.notary(0, 9), x, 0, 1267021, 2560000);
        x = Due.piled("8:3;4:1;8:3^1;7:3;6:5;3:3^4");
        x.ends(1);
        d.due("a chance of 27ths", x.notary(0, 7), x, 0, 8071553, 43200000);
        x = Due.piled("0:3;7:3^0;9:3^0;1:7^2;5:3^1;5:2");
        x.ends(1);
        d.due("a chance of 78125ths", x.notary(0, 9), x, 0, 8307127, 10000000);
    }

    private void meanTooMany() {
        e.says(34, "-3: there are more than 6 THINGS THERE");
        AllAboveIt x = Due.piled(SIX);
        d.due("six", x.mean(), x, 0, 0, 1);
        Due.piles(x, "1:3");
        d.due("seven", x.mean(), -3);
        d.due("asked again", x.mean(), -3);
        x.move(0);
        d.due("six THERE", x.mean(), x, 0, 0, 1);
        x = Due.piled("9:3;".repeat(13) + "9:3");
        d.due("fourteen", x.mean(), -3);
        // each of six MOVES is as likely to take it, three of each HEIR
        x = Due.piled("9:3;0:3;0:3;0:3;0:3;0:3");
        d.due("six, one of WORTH", x.mean(), x, 0, 0, 1);
        x = Due.piled("9:1;0:3;0:3;0:3;0:3;0:3");
        // HEIR 0 does not take it out of 6 by 5/6, of 4 by 3/4, of 2 by 1/2; then HEIR 1 has no MOVE
        d.due("six, one HEIR 0's", x.mean(), x, 0, 99, 16);
    }

    private void meanBack() {
        e.says(34, "or some are BACK");
        AllAboveIt x = Due.piled("1:3;1:3r");
        x.limits();
        d.due("one", x.mean(), x, -3, -2, 2);
        x.move(1);
        d.due("it is gone", x.mean(), -3);
        x.move(15);
        x.move(1);
        d.due("gone and put back already", x.mean(), -3);
        x = Due.piled("1:3r");
        x.move(0);
        d.due("nothing THERE", x.mean(), -3);
        e.says(34, "how much more whoever is on turn gets in the mean");
        AllAboveIt y = Due.piled("9:3;5:1");
        // HEIR 0: 9, then HEIR 1 has none; or 5, then HEIR 1 takes 9
        d.due("HEIR 0", y.mean(), y, 0, 5, 2);
        y.move(0);
        d.due("HEIR 1 has none", y.mean(), y, 0, 0, 1);
    }
}
