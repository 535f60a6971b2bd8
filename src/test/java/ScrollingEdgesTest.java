/** The edges of THE ESTIMATE and SCROLLING and of promises 5, 14, 22 and 23: a method for each sentence that names one. */
public final class ScrollingEdgesTest extends Checks {

    /** A reader of speed 25 without lag, who expects word 2 and was heard just now, at the time 4. */
    private Teleprompter moving(String text) {
        Teleprompter t = loaded(text);
        t.set(8, 0);
        t.hear('a');
        t.tick(4);
        t.hear('b');
        told("moving", t, 4, 4, 2, 25);
        return t;
    }

    /** Rows of one word each. */
    private Teleprompter column(int rows, int height, int focus, int limit) {
        Teleprompter t = loaded("a".repeat(rows));
        set(t, 0, 1, 1, height, 2, focus, 7, limit);
        return t;
    }

    private static void set(Teleprompter t, int... settingsAndValues) {
        for (int i = 0; i + 1 < settingsAndValues.length; i += 2) {
            t.set(settingsAndValues[i], settingsAndValues[i + 1]);
        }
    }

    /** Ticks one by one, and checks the top behind each. */
    private void tops(String when, Teleprompter t, int... want) {
        for (int top : want) {
            t.tick(1);
            told(when, t, 8, top);
        }
    }

    // "(100 * p + speed * (...)) / 100", rounded down
    private void estimateRoundsDown() {
        Teleprompter t = moving("abcdefgh");
        told("200", t, 7, 2);
        t.tick(3);
        told("275", t, 7, 2);
        t.tick(1);
        told("300", t, 7, 3);
        t.tick(3);
        told("375", t, 7, 3);
        t.tick(1);
        told("400", t, 7, 4);
        t = loaded("a".repeat(120));
        for (int word = 0; word < 120; word++) {
            t.place(word);
            told("100 for each word", t, 7, word);
        }
    }

    // "+ the lag"
    private void estimateByTheLag() {
        int[][] lags = {{0, 2}, {3, 2}, {4, 3}, {7, 3}, {8, 4}, {10, 4}};
        for (int[] lag : lags) {
            Teleprompter t = moving("abcdefgh");
            t.set(8, lag[0]);
            told("lag " + lag[0], t, 7, lag[1]);
        }
    }

    // "the time at which a word was heard last": not by a miss or a release, but by an accepted word and place
    private void timeSinceAWord() {
        Teleprompter t = moving("abcdefghi/");
        t.tick(3);
        due("a miss", t.hear('z'), NONE);
        t.release();
        t.tick(1);
        told("4 ticks since", t, 7, 3);
        t.place(2);
        told("none since", t, 7, 2);
        t.tick(3);
        told("3 ticks since", t, 7, 2);
        t.hear('c');
        told("none since, of the next word", t, 5, 3);
        told("none since, of the next word", t, 7, 3);
    }

    // "the word of the next cue, if there is one"
    private void estimateHeldByACue() {
        Teleprompter t = moving("abcd/efgh");
        t.tick(3);
        told("before the cue", t, 7, 2);
        t.tick(1);
        told("at the cue", t, 7, 3);
        t.tick(4);
        told("held", t, 7, 3);
        t.release();
        told("let go", t, 7, 4);
        t = moving("abcde/fgh");
        t.tick(8);
        told("not held by a cue behind 4", t, 7, 4);
        t.tick(4);
        told("but then", t, 7, 4);
        t = moving("ab/cdefgh");
        told("a cue before the position", t, 7, 1);
        t.hear('c');
        told("passed", t, 7, 3);
        t = moving("abcd/e/fgh");
        t.release();
        t.tick(12);
        told("held by the second one", t, 7, 4);
    }

    // "and n - 1"
    private void estimateWithinTheScript() {
        Teleprompter t = moving("abcd");
        t.tick(3);
        told("before the last word", t, 7, 2);
        t.tick(1);
        told("the last word", t, 7, 3);
        t.tick(4);
        told("still", t, 7, 3);
        hearAll(t, "cd");
        told("at the end", t, 5, 4);
        told("at the end", t, 7, 3);
        t = new Teleprompter();
        told("the only word", t, 7, 0);
        t.hear('a');
        told("behind the only word", t, 5, 1, 0, 0);
    }

    // "from 0 to T, where T is 100 * (R - height), or 0 if R is less than the height"
    private void desiredAtMostT() {
        int[][] sizes = {{1, 1, 0}, {2, 1, 100}, {2, 3, 0}, {3, 3, 0}, {4, 3, 100}, {7, 8, 0}, {8, 8, 0}, {9, 8, 100},
            {120, 8, 11200}, {120, 1, 11900}};
        for (int[] size : sizes) {
            Teleprompter t = column(size[0], size[1], 0, 100);
            t.place(size[0] - 1);
            told(size[0] + " rows, height " + size[1], t, 9, size[2]);
            t.tick(1);
            t.tick(100);
            told("and the top is there", t, 8, size[2]);
        }
    }

    // "The desired top is 100 * (the row of the estimated word - focus), limited to this range"
    private void desiredWithinTheRange() {
        int[][] low = {{0, 0}, {6, 0}, {7, 0}, {8, 100}, {9, 200}};
        for (int[] row : low) {
            Teleprompter t = column(20, 8, 7, 25);
            t.place(row[0]);
            told("row " + row[0] + " in 20", t, 9, row[1]);
        }
        int[][] high = {{6, 400}, {7, 500}, {8, 500}, {9, 500}};
        for (int[] row : high) {
            Teleprompter t = column(10, 5, 2, 25);
            t.place(row[0]);
            told("row " + row[0] + " in 10", t, 9, row[1]);
        }
    }

    // "where the focus counts as at most height - 1"
    private void focusWithinTheHeight() {
        int[][] rows = {{3, 0, 1000}, {3, 1, 900}, {3, 2, 800}, {3, 3, 800}, {3, 7, 800}, {1, 0, 1000}, {1, 1, 1000},
            {1, 7, 1000}, {8, 6, 400}, {8, 7, 300}};
        for (int[] row : rows) {
            Teleprompter t = column(20, row[0], row[1], 25);
            t.place(10);
            told("height " + row[0] + ", focus " + row[1], t, 9, row[2]);
            due("the setting stays", t.setting(2), row[1]);
        }
    }

    private Teleprompter downward(int limit) {
        Teleprompter t = column(10, 3, 1, limit);
        t.place(2);
        return t;
    }

    private Teleprompter upward(int limit) {
        Teleprompter t = downward(100);
        t.tick(1);
        t.set(7, limit);
        t.place(1);
        return t;
    }

    // "the top moves toward the desired one ... by at most the scroll limit"
    private void movesByTheLimit() {
        tops("down by 1", downward(1), 1, 2, 3);
        tops("down by 25", downward(25), 25, 50, 75, 100, 100);
        tops("down by 30", downward(30), 30, 60, 90, 100, 100);
        tops("down by 99", downward(99), 99, 100, 100);
        tops("down by 100", downward(100), 100, 100);
        tops("up by 1", upward(1), 99, 98, 97);
        tops("up by 25", upward(25), 75, 50, 25, 0, 0);
        tops("up by 30", upward(30), 70, 40, 10, 0, 0);
        tops("up by 99", upward(99), 1, 0, 0);
        tops("up by 100", upward(100), 0, 0);
        Teleprompter t = upward(30);
        t.tick(4);
        told("no jerk in all this", t, 13, 0);
    }

    // "the time ... increases by 1, and then the top moves toward the desired one, as it is at this time"
    private void desiredAtTheNewTime() {
        Teleprompter t = moving("abcdefgh");
        set(t, 0, 1, 2, 0, 7, 100);
        t.tick(1);
        t.tick(2);
        told("at word 2", t, 7, 2, 200, 200);
        t.tick(1);
        told("at word 3, and at once", t, 7, 3, 300, 300);
    }

    // "if 100 * r is less than the top": the last row that is shown, and the first that is not
    private void jerkUpward() {
        for (int limit = 99; limit <= 100; limit++) {
            Teleprompter t = column(10, 3, 0, 100);
            t.place(3);
            t.tick(3);
            told("top", t, 8, 300);
            told("no jerk", t, 13, 0);
            t.set(7, limit);
            t.place(2);
            due("row 2 with a limit of " + limit, t.tick(1), limit == 100 ? 0 : 1);
            told("the top is there", t, 8, 200);
            t.place(0);
            due("row 0 with a top of 200", t.tick(1), 1);
            told("the top is 0", t, 8, 0);
        }
    }

    // "or greater than top + 100 * (height - 1)": the same below, and "the nearest number for which it is"
    private void jerkDownward() {
        for (int limit = 99; limit <= 100; limit++) {
            Teleprompter t = column(10, 3, 2, limit);
            t.place(3);
            due("row 3 with a limit of " + limit, t.tick(1), limit == 100 ? 0 : 1);
            told("the top is there", t, 8, 100);
            t.place(5);
            due("row 5 with a top of 200", t.tick(1), 1);
            told("it is the last row", t, 8, 300);
            t.place(9);
            due("the last row of all", t.tick(1), 1);
            told("it is the last row", t, 8, 700);
        }
        Teleprompter t = column(2, 1, 0, 99);
        t.place(1);
        due("a height of 1: not wholly shown by 99", t.tick(1), 1);
        t = column(2, 1, 0, 100);
        t.place(1);
        due("a height of 1: wholly shown by 100", t.tick(1), 0);
    }

    // Promise 14: "whether its row is wholly shown (1 or 0)"
    private void rowsWhollyShown() {
        Teleprompter t = column(10, 3, 0, 99);
        shown("top 0", t, 1, 1, 1, 0, 0);
        t.place(1);
        t.tick(1);
        shown("top 99", t, 0, 1, 1, 0, 0);
        t.tick(1);
        shown("top 100", t, 0, 1, 1, 1, 0);
        t.set(1, 1);
        shown("height 1", t, 0, 1, 0, 0, 0);
        t.set(1, 8);
        shown("height 8", t, 0, 1, 1, 1, 1);
        due("row 8", t.word(8, 4), 1);
        due("row 9", t.word(9, 4), 0);
    }

    private void shown(String when, Teleprompter t, int... want) {
        for (int row = 0; row < want.length; row++) {
            due(when + ": row " + row + " is shown", t.word(row, 4), want[row]);
        }
    }

    // Promise 5: "how many, 1 to 100", "Returns the number of jerks in them; BAD if n is out of range"
    private void ticksFrom1To100() {
        Teleprompter t = loaded("abcdefghij");
        for (int n : new int[] {0, 101, -1, Integer.MIN_VALUE, Integer.MAX_VALUE}) {
            due("tick of " + n, t.tick(n), BAD);
        }
        told("no time has gone", t, 4, 0);
        set(t, 0, 1, 1, 1, 7, 1, 8, 0);
        t.hear('a');
        due("row 1 comes by a jerk", t.tick(1), 1);
        t.hear('b');
        told("one tick", t, 4, 1, 2, 100);
        due("rows 3 to 9 come by a jerk each", t.tick(100), 7);
        told("a hundred ticks", t, 4, 101);
        told("all jerks", t, 13, 8);
        due("no more", t.tick(100), 0);
        told("all jerks", t, 13, 8);
    }

    // Promise 22: "0 if it is so now"
    private void reachedNow() {
        Teleprompter t = moving("abcdefgh");
        due("a lesser word", t.reached(0), 0);
        due("the estimated word", t.reached(2), 0);
        due("the next one", t.reached(3), 4);
        t.tick(3);
        due("a tick before", t.reached(3), 1);
        t.tick(1);
        due("in time", t.reached(3), 0);
        due("the last word", t.reached(7), 16);
        hearAll(t, "cdefgh");
        due("the last word at the end", t.reached(7), 0);
        due("the only word", new Teleprompter().reached(0), 0);
    }

    // Promise 22: "NONE if it is not so within 500 ticks"
    private void reachedWithin500() {
        Teleprompter t = loaded("abcdefghijklmnop");
        set(t, 6, 60, 8, 0);
        t.hear('a');
        t.tick(50);
        t.hear('b');
        t.place(0);
        told("50 ticks a word", t, 6, 2, 0);
        due("500 ticks", t.reached(10), 500);
        due("550 ticks", t.reached(11), NONE);
        t.tick(49);
        due("501 ticks", t.reached(11), NONE);
        t.tick(1);
        due("500 ticks then", t.reached(11), 500);
        due("without speed", loaded("ab").reached(1), NONE);
    }

    // Promise 22: "if nothing were heard and released"
    private void reachedUpToACue() {
        Teleprompter t = moving("abcde/fgh");
        due("the cue's word", t.reached(4), 8);
        due("the word behind it", t.reached(5), NONE);
        t.release();
        due("the word behind it then", t.reached(5), 12);
    }

    // Promises 22 and 23: "BAD if there is no such word", "how many ticks, 1 to 10", "what: 0 ... 3"
    private void reachedAndRehearseOutOfRange() {
        Teleprompter t = loaded("abc");
        for (int word : new int[] {-1, 3, Integer.MIN_VALUE, Integer.MAX_VALUE}) {
            due("reached(" + word + ")", t.reached(word), BAD);
        }
        for (int pace : new int[] {0, 11, -1, Integer.MIN_VALUE, Integer.MAX_VALUE}) {
            due("rehearse with a pace of " + pace, t.rehearse(pace, 3), BAD);
        }
        for (int what : new int[] {-1, 4, Integer.MIN_VALUE, Integer.MAX_VALUE}) {
            due("rehearse for " + what, t.rehearse(1, what), BAD);
        }
        due("both out of range", t.rehearse(0, 4), BAD);
        due("the least pace", t.rehearse(1, 3), 3);
        due("the greatest pace", t.rehearse(10, 3), 3);
    }

    private Teleprompter oneRow(String text) {
        Teleprompter t = loaded(text);
        set(t, 0, 1, 1, 1, 7, 1, 8, 0);
        return t;
    }

    // Promise 23: "ahead of each of them so many ticks are done"
    private void rehearseByThePace() {
        due("rows 1 and 3 come by a jerk", oneRow("abcd").rehearse(1, 0), 2);
        due("rows 1, 2 and 3 come by a jerk", oneRow("abcd").rehearse(10, 0), 3);
    }

    // Promise 23: "the words of the script from the position, as it is now, to the last one": none, one, and all
    private void rehearseFromThePosition() {
        Teleprompter t = oneRow("abcd");
        hearAll(t, "abcd");
        for (int what = 0; what < 3; what++) {
            due("nothing left: " + what, t.rehearse(10, what), 0);
        }
        due("the position then", t.rehearse(10, 3), 4);
        t.place(3);
        due("one word left: its row comes by a jerk", t.rehearse(1, 0), 1);
        due("nothing else", t.rehearse(1, 1) + t.rehearse(1, 2), 0);
        t.tick(1);
        due("its row is shown already", t.rehearse(1, 0), 0);
        due("the position then", t.rehearse(1, 3), 4);
        due("the only word", new Teleprompter().rehearse(10, 3), 1);
        t = loaded("a".repeat(120));
        due("120 words", t.rehearse(10, 3), 120);
        due("none is missed", t.rehearse(10, 2), 0);
        due("none is a skip or a repeat", t.rehearse(10, 1), 0);
    }

    // Promise 23: "in this": what was counted before does not count
    private void rehearseCountsItsOwn() {
        Teleprompter t = oneRow("abcdefgh");
        t.set(5, 1);
        hearAll(t, "zcaz");
        t.tick(1);
        told("a skip, a repeat, two misses and a jerk", t, 10, 1, 1, 2, 1);
        t.place(0);
        t.tick(1);
        told("another jerk", t, 13, 2);
        due("jerks in a rehearsal", t.rehearse(1, 0), 6);
        due("skips and repeats", t.rehearse(1, 1), 0);
        due("misses", t.rehearse(1, 2), 0);
    }

    // Promise 23: "and the next cue stands behind it, this cue is released"
    private void rehearseReleases() {
        Teleprompter t = oneRow("abc/def");
        t.hear('a');
        t.tick(1);
        t.hear('b');
        due("row 2, held there; rows 3 and 4; row 5", t.rehearse(10, 0), 4);
        due("to the end", t.rehearse(10, 3), 6);
        told("in a copy", t, 16, 2);
        due("a cue behind the last word", loaded("a/b/").rehearse(1, 3), 2);
    }

    // Promise 23: "and the next cue stands behind it": no cue is released ahead of its word
    private void rehearseReleasesNoCueAhead() {
        Teleprompter t = oneRow("abcde/fg");
        t.hear('a');
        t.tick(1);
        t.hear('b');
        told("a word a tick", t, 6, 100);
        due("rows 3 and 4, held there, and 6", t.rehearse(1, 0), 3);
        t.release();
        due("rows 3 to 6", t.rehearse(1, 0), 4);
    }

    // The same: a cue behind the word, while one before it waits, is not the next one
    private void rehearseReleasesTheNextCueOnly() {
        Teleprompter t = oneRow("ab/x/mxcxd");
        t.set(5, 4);
        t.set(4, 2);
        t.hear('a');
        t.tick(1);
        t.hear('b');
        due("m is missed, so the first x will be: the second one is behind m", t.hear('m'), NONE);
        // x, m and x are below the need, c is too far; then the last x is taken for the first one, whose cue still
        // waits and holds the text in row 2; d is too far.
        due("x, m, x, c and d are missed", t.rehearse(10, 2), 5);
        due("neither skip nor repeat", t.rehearse(10, 1), 0);
        due("the position then", t.rehearse(10, 3), 3);
        due("row 2 comes by a jerk, no further one", t.rehearse(10, 0), 1);
    }

    // "everything happens in a copy"
    private void onlyInACopy() {
        same("reached and rehearse change nothing", View.all(() -> {
            Teleprompter t = busy();
            t.reached(9);
            t.rehearse(10, 0);
            t.rehearse(1, 3);
            return t;
        }), View.all(ScrollingEdgesTest::busy));
    }

    private static Teleprompter busy() {
        Teleprompter t = new Teleprompter();
        rewrite(t, "abc/d|efghi/jk|");
        t.load();
        rewrite(t, "abc/d|efghi/jk");
        t.load();
        set(t, 0, 2, 1, 1);
        t.hear('a');
        t.tick(2);
        t.keep(0);
        hearAll(t, "bcdz");
        return t;
    }

    public static void main(String[] args) {
        ScrollingEdgesTest test = new ScrollingEdgesTest();
        test.estimateRoundsDown();
        test.estimateByTheLag();
        test.timeSinceAWord();
        test.estimateHeldByACue();
        test.estimateWithinTheScript();
        test.desiredAtMostT();
        test.desiredWithinTheRange();
        test.focusWithinTheHeight();
        test.movesByTheLimit();
        test.desiredAtTheNewTime();
        test.jerkUpward();
        test.jerkDownward();
        test.rowsWhollyShown();
        test.ticksFrom1To100();
        test.reachedNow();
        test.reachedWithin500();
        test.reachedUpToACue();
        test.reachedAndRehearseOutOfRange();
        test.rehearseByThePace();
        test.rehearseFromThePosition();
        test.rehearseCountsItsOwn();
        test.rehearseReleases();
        test.rehearseReleasesNoCueAhead();
        test.rehearseReleasesTheNextCueOnly();
        test.onlyInACopy();
        test.end();
    }
}
