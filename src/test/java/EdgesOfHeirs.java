/** Edges of promises 35 to 39: three HEIRS and a notary. */
final class EdgesOfHeirs {
    private static final int MIN = Integer.MIN_VALUE;
    private static final int MAX = Integer.MAX_VALUE;
    private static final String SIX = "1:3;".repeat(5) + "1:3";

    private final Edges e;
    private final Due d;

    EdgesOfHeirs(Edges e) {
        this.e = e;
        this.d = e.d;
    }

    void test() {
        likesOthers();
        likesAtFirst();
        parrotNobody();
        parrotFirst();
        parrotWants();
        parrotLongest();
        parrotNone();
        parrotsUnlike();
        outFirst();
        outNobody();
        outWithEither();
        outNot();
        notaryCases();
        notaryTooMany();
        notaryOthers();
    }

    /** A tower of three: who is told takes all but one or all but two, as it likes. */
    private static AllAboveIt three() {
        return Due.piled("1:7;1:7^0;1:7^1");
    }

    // ---- promise 35

    private void likesOthers() {
        e.says(35, "Refused: others.");
        AllAboveIt x = three();
        int[] others = {-1, 3, 4, MIN, MAX};
        for (int heir = 0; heir <= 2; heir++) {
            d.due("itself: " + heir, x.likes(heir, heir), false);
            for (int v : others) {
                d.due("likes(" + heir + ", " + v + ")", x.likes(heir, v), false);
                d.due("likes(" + v + ", " + heir + ")", x.likes(v, heir), false);
            }
        }
        d.due("both none such", x.likes(3, -1), false);
        d.due("parrots() as at first", x.parrots(), x, 3, 1, 2, 0);
        for (int heir = 0; heir <= 2; heir++) {
            d.due("the other one: " + heir, x.likes(heir, (heir + 2) % 3), true);
        }
        d.due("parrots() the other way", x.parrots(), x, 3, 2, 0, 1);
        for (int heir = 0; heir <= 2; heir++) {
            x.likes(heir, heir);
            x.likes(heir, 3);
        }
        d.due("refused, still the other way", x.parrots(), x, 3, 2, 0, 1);
        d.due("the first one again", x.likes(1, 2), true);
        d.due("just of that HEIR", x.parrots(), x, 2, 2, 2, 1);
    }

    private void likesAtFirst() {
        e.says(35, "if not itself, the HEIR 'first' (another one) keeps the parrot");
        AllAboveIt y = three();
        for (int heir = 0; heir <= 2; heir++) {
            d.due("itself", y.likes(heir, heir), false);
            for (int other = 0; other <= 2; other++) {
                if (other != heir) {
                    d.due("likes(" + heir + ", " + other + ")", y.likes(heir, other), true);
                    d.due("parrot(" + heir + ")", y.parrot(heir), other);
                }
            }
        }
        e.says(35, "At first: 0 likes 1, 1 likes 2, 2 likes 0.");
        AllAboveIt x = three();
        d.due("parrots()", x.parrots(), x, 3, 1, 2, 0);
        for (int heir = 0; heir <= 2; heir++) {
            d.due("told what it is at first", x.likes(heir, (heir + 1) % 3), true);
        }
        d.due("parrots()", x.parrots(), x, 3, 1, 2, 0);
    }

    // ---- promise 36

    private void parrotNobody() {
        e.says(36, "(from now on; 3: nobody did)");
        AllAboveIt x = new AllAboveIt();
        for (int heir = 0; heir <= 2; heir++) {
            d.due("no THINGS: parrot(" + heir + ")", x.parrot(heir), x, 3, -1);
        }
        x = Due.piled("1:1;1:2");
        d.due("HEIR 2 has no MOVE", x.parrot(2), x, 3, -1);
        x.move(0);
        x.move(1);
        d.due("MOVES made ahead do not count", x.parrot(0), x, 3, -1);
        e.says(36, "who has no MOVE ends it, and who MOVED last keeps the parrot");
        x = Due.piled("1:1;1:1;1:4;1:4");
        d.due("0, then 1 has none", x.parrot(0), x, 0, 0);
        d.due("2, 0, then 1 has none", x.parrot(2), x, 0, 2);
        x = Due.piled("1:1r");
        d.due("0 takes it, 1 puts it back, 2 has none", x.parrot(0), x, 1, 0);
    }

    private void parrotFirst() {
        e.says(36, "(the first of those as good; NONE, if none)");
        AllAboveIt x = Due.piled("1:7;1:7;1:7");
        d.due("all as good", x.parrot(0), x, 2, 0);
        x = Due.piled("1:7;1:7^0;1:7^0");
        // HEIR 1 takes the other one of 1 and 2, HEIR 2 the lowest
        d.due("1 and 2 are the same", x.parrot(0), x, 2, 1);
        x = Due.piled("1:2;1:1;1:1^1");
        d.due("each way HEIR 1 takes 0 or HEIR 0 is last", x.parrot(0), x, 1, 1);
        x = Due.piled("1:4");
        d.due("none", x.parrot(0), x, 3, -1);
    }

    private void parrotWants() {
        e.says(36, "Each wants first not to keep it, then as it likes (3 is best of all): who keeps it");
        AllAboveIt x = Due.piled("1:7;1:7^0");
        // HEIR 0 would keep it by 0, HEIR 1 by 1: whom it likes does not matter
        d.due("likes 1", x.parrot(0), x, 1, 1);
        x.likes(0, 2);
        d.due("likes 2", x.parrot(0), x, 1, 1);
        x = three();
        x.likes(0, 2);
        d.due("two ways not to keep it: likes 2", x.parrot(0), x, 2, 2);
        x.likes(0, 1);
        d.due("two ways not to keep it: likes 1", x.parrot(0), x, 1, 1);
    }

    private void parrotLongest() {
        e.says(36, "Three HEIRS in turn 0, 1, 2, 0 .. from now on, an HEIR told on turn");
        AllAboveIt x = Due.piled("1:7;".repeat(13) + "1:7");
        for (int heir = 0; heir <= 2; heir++) {
            d.due("fourteen, HEIR " + heir + " first", x.parrot(heir), x, (heir + 13) % 3, 0);
        }
        x = Due.piled("1:7r;1:7r;" + "1:7;".repeat(11) + "1:7");
        d.due("two BACK", x.parrot(0) != 0, true);
        d.due("nothing changes", x.count(2), 0);
        d.due("on turn", x.count(3), 0);
    }

    private void parrotNone() {
        e.says(36, "NONE: none such.");
        AllAboveIt x = Due.piled("1:7");
        x.limits();
        int[] none = {-1, 3, 4, MIN, MAX};
        for (int heir : none) {
            d.due("parrot(" + heir + ")", x.parrot(heir), x, -1, -1, 1);
        }
    }

    // ---- promise 37

    private void parrotsUnlike() {
        e.says(37, "how many unlike answers these are");
        AllAboveIt x = new AllAboveIt();
        d.due("all nobody", x.parrots(), x, 1, 3, 3, 3);
        x = Due.piled("1:1");
        d.due("one of them", x.parrots(), x, 2, 0, 3, 3);
        x = Due.piled("1:7");
        d.due("each itself", x.parrots(), x, 3, 0, 1, 2);
        x = Due.piled("1:1;1:2;1:4");
        // who is told is followed by both others, the last of whom keeps it
        d.due("each its own", x.parrots(), x, 3, 2, 0, 1);
    }

    // ---- promise 38

    private void outFirst() {
        e.says(38, "the first of the others without whom it would not");
        AllAboveIt x = Due.piled("1:1;1:4");
        d.due("0 keeps it, as 1 has none", x.parrot(0), 0);
        d.due("without 1 it is 2", x.out(0), 1);
        x = Due.piled("1:1;1:2;1:1");
        d.due("1 keeps it, as 2 has none", x.parrot(0), 1);
        d.due("without 0 it keeps it, without 2 it does not", x.out(1), 2);
        x = Due.piled("1:7");
        d.due("0 keeps it anyhow", x.out(0), -2);
        e.says(38, "the two that are left go on in turn, the lesser first, from now on");
        x = Due.piled("1:7;1:7;1:7");
        d.due("2 keeps it", x.parrot(0), 2);
        // without 0: 1, 2, 1; without 1: 0, 2, 0
        d.due("without 0 it is 1", x.out(2), 0);
        x = Due.piled("1:1;1:7;1:7;1:7");
        x.move(0);
        d.due("from now on: 2 keeps it", x.parrot(0), 2);
        d.due("from now on: without 0 it is 1", x.out(2), 0);
    }

    private void outNobody() {
        e.says(38, "(nobody, if the first has no MOVE at once)");
        AllAboveIt x = Due.piled("1:1r");
        d.due("0 takes it, 1 puts it back, 2 has none", x.parrot(0), 1);
        d.due("without 0 HEIR 1 has no MOVE", x.out(1), 0);
        x = Due.piled("1:4;1:1^0r");
        d.due("0 takes 1, 1 puts it back, 2 takes both", x.parrot(0), 2);
        d.due("without 0 HEIR 1 has no MOVE, and 2 keeps nothing", x.out(2), 0);
    }

    private void outWithEither() {
        e.says(38, "-2: with either it would");
        AllAboveIt x = Due.piled("1:1;1:2");
        d.due("1 keeps it", x.parrot(0), 1);
        d.due("without 0, without 2 as well", x.out(1), -2);
        x = Due.piled("1:1");
        d.due("0 alone has a MOVE", x.out(0), -2);
    }

    private void outNot() {
        e.says(38, "-3: it does not keep it");
        AllAboveIt x = new AllAboveIt();
        for (int heir = 0; heir <= 2; heir++) {
            d.due("nobody does: out(" + heir + ")", x.out(heir), -3);
        }
        x = Due.piled("1:1;1:2");
        d.due("1 does: out(0)", x.out(0), -3);
        d.due("1 does: out(2)", x.out(2), -3);
        e.says(38, "NONE: none such.");
        int[] none = {-1, 3, 4, MIN, MAX};
        for (int heir : none) {
            d.due("out(" + heir + ")", x.out(heir), -1);
            d.due("no THINGS: out(" + heir + ")", new AllAboveIt().out(heir), -1);
        }
    }

    // ---- promise 39

    private void notaryCases() {
        e.says(39, "with c of ten cases (0 .. 10)");
        for (int c = 0; c <= 10; c++) {
            AllAboveIt x = Due.piled("1:3;1:3^0");
            // the notary takes the wrong one of two in half of its cases
            int upper = 20 - c;
            int g = c == 0 ? 20 : c == 10 ? 10 : c % 4 == 0 ? 4 : c % 2 == 0 ? 2 : c == 5 ? 5 : 1;
            d.due("c " + c, x.notary(0, c), x, 0, upper / g, 20 / g);
        }
        e.says(39, "the chance that an HEIR (0, 1) wins from now on by END");
        AllAboveIt x = new AllAboveIt();
        d.due("no THINGS, HEIR 0", x.notary(0, 10), x, 0, 0, 1);
        d.due("no THINGS, HEIR 1", x.notary(1, 10), x, 0, 1, 1);
        x.ends(1);
        d.due("no THINGS, HEIR 0 by END 1", x.notary(0, 10), x, 0, 1, 1);
        d.due("no THINGS, HEIR 1 by END 1", x.notary(1, 10), x, 0, 0, 1);
        x = Due.piled("1:3;1:3^0;1:3");
        x.move(2);
        d.due("HEIR 1 is on turn: HEIR 0", x.notary(0, 10), x, 0, 1, 2);
        d.due("HEIR 1 is on turn: HEIR 1", x.notary(1, 2), x, 0, 9, 10);
    }

    private void notaryTooMany() {
        e.says(39, "-3: there are more than 6 THINGS THERE, or some are BACK;");
        AllAboveIt x = Due.piled(SIX);
        d.due("six", x.notary(1, 10), x, 0, 1, 1);
        Due.piles(x, "1:3");
        x.limits();
        d.due("seven", x.notary(0, 0), x, -3, -7, 7);
        x.move(0);
        d.due("six THERE", x.notary(1, 0), x, 0, 0, 1);
        x = Due.piled("1:3r");
        d.due("BACK", x.notary(0, 0), -3);
        x.move(0);
        d.due("BACK, nothing THERE", x.notary(0, 0), -3);
        x.move(14);
        x.move(0);
        d.due("put back already", x.notary(0, 0), -3);
    }

    private void notaryOthers() {
        e.says(39, "NONE: others.");
        AllAboveIt x = Due.piled("1:3");
        x.limits();
        int[] heirs = {-1, 2, 3, MIN, MAX};
        for (int heir : heirs) {
            d.due("notary(" + heir + ", 5)", x.notary(heir, 5), x, -1, -1, 1);
        }
        int[] cases = {-1, 11, 12, MIN, MAX};
        for (int c : cases) {
            d.due("notary(0, " + c + ")", x.notary(0, c), x, -1, -1, 1);
        }
        e.says(0, "NONE goes ahead of -2 and -3.");
        AllAboveIt y = Due.piled("1:3r;".repeat(2) + "1:3;".repeat(5) + "1:3");
        d.due("seven, BACK: notary(2, 5)", y.notary(2, 5), -1);
        d.due("seven, BACK: notary(0, 11)", y.notary(0, 11), -1);
        d.due("seven, BACK: notary(0, 5)", y.notary(0, 5), -3);
        d.due("out(3)", y.out(3), -1);
        d.due("sheet(4, -1, 0, 0)", y.sheet(4, -1, 0, 0), -1);
        d.due("sheet(3, 15, 0, 0)", y.sheet(3, 15, 0, 0), -1);
        y.move(0);
        d.due("heap(8)", y.heap(8), -1);
        d.due("alike(0, 8)", y.alike(0, 8), -1);
        d.due("alike(8, 0)", y.alike(8, 0), -1);
        d.due("alike(0, 1)", y.alike(0, 1), -2);
    }
}
