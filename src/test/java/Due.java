import java.util.NoSuchElementException;

/** What the tests share: answers that are due, THE TEXT from a String, the ROW. */
final class Due {
    private int wrong = 0;
    private int asked = 0;
    private String sentence = "";

    /** What is asked from now on is asked for a sentence of the document, which is printed with it. */
    void under(String words) {
        sentence = words;
    }

    int asked() {
        return asked;
    }

    private void complain(String call, String got, String want) {
        wrong++;
        if (wrong <= 50) {
            System.out.println((sentence.isEmpty() ? "" : "[" + sentence + "] ") + call + " answered " + got
                + ", due is " + want);
        }
    }

    /** Prints an answer that is not the one that is due. */
    void due(String call, long got, long want) {
        asked++;
        if (got != want) {
            complain(call, String.valueOf(got), String.valueOf(want));
        }
    }

    void due(String call, boolean got, boolean want) {
        due(call, got ? 1 : 0, want ? 1 : 0);
    }

    void due(String call, String got, String want) {
        asked++;
        if (!got.equals(want)) {
            complain(call, got, want);
        }
    }

    /** Both the answer of a call and the ROW behind it. */
    void due(String call, long got, AllAboveIt x, long want, long... row) {
        due(call, got, want);
        dueRow(call, x, row);
    }

    void dueRow(String call, AllAboveIt x, long... row) {
        due(call + ": the row", told(x), java.util.Arrays.toString(row));
        due(call + ": row behind its end", rowThrows(x, row.length), true);
        due(call + ": row ahead of its start", rowThrows(x, -1), true);
    }

    static String told(AllAboveIt x) {
        long[] row = new long[x.count(6)];
        for (int i = 0; i < row.length; i++) {
            row[i] = x.row(i);
        }
        return java.util.Arrays.toString(row);
    }

    static boolean rowThrows(AllAboveIt x, int i) {
        try {
            x.row(i);
            return false;
        } catch (NoSuchElementException e) {
            return true;
        }
    }

    static boolean thingThrows(AllAboveIt x, int i, int what) {
        try {
            x.thing(i, what);
            return false;
        } catch (NoSuchElementException e) {
            return true;
        }
    }

    /** THE TEXT becomes these signs (at most 80). */
    static void write(AllAboveIt x, String text) {
        x.end(0);
        for (int p = 0; p < text.length(); p += 4) {
            int v = 0;
            for (int k = 0; k < 4; k++) {
                v = v << 8 | (p + k < text.length() ? text.charAt(p + k) : 0);
            }
            x.sign(v);
        }
        x.end(text.length());
    }

    static int piles(AllAboveIt x, String text) {
        write(x, text);
        return x.piles();
    }

    /** A new object with the THINGS of a text. */
    static AllAboveIt piled(String text) {
        AllAboveIt x = new AllAboveIt();
        if (piles(x, text) < 0) {
            throw new IllegalStateException("the test's own text is wrong: " + text);
        }
        return x;
    }

    void close(String name) {
        System.out.println(name + ": " + asked + " answers, " + wrong + " not as due");
        if (wrong != 0) {
            System.exit(1);
        }
    }
}
