import java.util.function.Supplier;

/**
 * "A call that returns one of them changes nothing, except the latest fault": every method, refused in
 * several situations; behind it, everything that can be seen is as it was. So it is behind the methods
 * that only tell something, also where they return NONE.
 */
public final class RefusalsTest extends UnchangedChecks {
    /** The calls with an argument that is the last one too small or the first one too great. */
    private void addOutOfRange(int words, int rows) {
        int[] least = {1, 1, 0, 0, 1, 1, 1, 1, 0};
        int[] most = {12, 8, 7, 30, 60, 4, 60, 100, 10};
        for (int i = 0; i < 9; i++) {
            int s = i;
            add("set " + s + " too small", BAD, t -> t.set(s, least[s] - 1));
            add("set " + s + " too great", BAD, t -> t.set(s, most[s] + 1));
        }
        addOutOf("set", -1, 9, (t, x) -> t.set(x, 1));
        addOutOf("hear", 'a' - 1, 'z' + 1, Teleprompter::hear);
        addOutOf("tick", 0, 101, Teleprompter::tick);
        addOutOf("place", -1, words, Teleprompter::place);
        addOutOf("write", 31, 127, Teleprompter::write);
        addOutOf("fault", -1, 2, Teleprompter::fault);
        addOutOf("told", -1, 19, Teleprompter::told);
        addOutOf("setting", -1, 9, Teleprompter::setting);
        addOutOf("word", -1, words, (t, x) -> t.word(x, 0));
        addOutOf("what of word", -1, 5, (t, x) -> t.word(0, x));
        addOutOf("row", -1, rows, (t, x) -> t.row(x, 0));
        addOutOf("what of row", -1, 2, (t, x) -> t.row(0, x));
        add("heard -1", BAD, t -> t.heard(-1));
        add("trail -1", BAD, t -> t.trail(-1, 0));
        addOutOf("what of trail", -1, 2, (t, x) -> t.trail(0, x));
        addOutOf("score", -1, words, Teleprompter::score);
        addOutOf("best", 'a' - 1, 'z' + 1, (t, x) -> t.best(x, 0));
        addOutOf("what of best", -1, 3, (t, x) -> t.best('a', x));
        addOutOf("unique", -1, words, Teleprompter::unique);
        addOutOf("reached", -1, words, Teleprompter::reached);
        addOutOf("rehearse", 0, 11, (t, x) -> t.rehearse(x, 0));
        addOutOf("what of rehearse", -1, 4, (t, x) -> t.rehearse(1, x));
        addOutOf("keep", -1, 2, Teleprompter::keep);
        addOutOf("back", -1, 2, Teleprompter::back);
    }

    /** A method with the argument that is to be refused. */
    private interface Method {
        int call(Teleprompter teleprompter, int argument);
    }

    private void addOutOf(String name, int tooSmall, int tooGreat, Method method) {
        for (int argument : new int[] {tooSmall, tooGreat, Integer.MIN_VALUE, Integer.MAX_VALUE}) {
            add(name + " with " + argument, BAD, t -> method.call(t, argument));
        }
    }

    private void newObject() {
        addOutOfRange(1, 1);
        add("undo", STATE, t -> t.undo());
        add("release", STATE, t -> t.release());
        add("back(0)", STATE, t -> t.back(0));
        add("back(1)", STATE, t -> t.back(1));
        add("wipe of nothing", 0, t -> t.wipe());
        add("fault(0)", NONE, t -> t.fault(0));
        add("fault(1)", NONE, t -> t.fault(1));
        add("heard(0)", NONE, t -> t.heard(0));
        add("trail(0, 0)", NONE, t -> t.trail(0, 0));
        add("told(16)", NONE, t -> t.told(16));
        add("best of b", NONE, t -> t.best('b', 2));
        changeNothing("new", Teleprompter::new);
    }

    /** Much of everything: 8 changes, both images, a fault, a full text, pairs, words and cues of all kinds. */
    private static Teleprompter busy() {
        Teleprompter t = new Teleprompter();
        rewrite(t, "abc/|");
        t.load();
        rewrite(t, "ab/cd/e|fab/c/dg/h/");
        t.load();
        t.set(0, 2);
        t.set(1, 2);
        t.keep(0);
        t.hear('a');
        t.tick(2);
        t.hear('b');
        t.hear('c');
        t.release();
        t.tick(40);
        t.hear('z');
        t.hear('d');
        t.keep(1);
        t.tick(3);
        t.hear('e');
        rewrite(t, "xy/".repeat(46) + " z");
        return t;
    }

    private void busyObject() {
        Supplier<Teleprompter> run = RefusalsTest::busy;
        Teleprompter t = run.get();
        told("history", t, 18, 8);
        told("words, rows, passages, cues", t, 0, 12, 7, 2, 6);
        addOutOfRange(12, 7);
        for (int letter : new int[] {'a', ' ', '/', '|', '~'}) {
            add("write with 140 bytes", FULL, o -> o.write(letter));
        }
        add("heard(4)", NONE, o -> o.heard(4));
        add("trail behind the last pair", NONE, o -> o.trail(o.told(15), 1));
        add("best of z", NONE, o -> o.best('z', 0));
        add("reached behind the next cue", NONE, o -> o.reached(10));
        add("unique of the first word", NONE, o -> o.unique(0));
        add("mean", 1, o -> o.mean() == 12.0f / 7.0f ? 1 : 0);
        changeNothing("busy", run);
    }

    private void midwayObject() {
        addOutOfRange(40, 20);
        changeNothing("midway", UnchangedChecks::midway);
        addOutOfRange(40, 20);
        changeNothing("midway without a fault", UnchangedChecks::midwayWithoutFault);
    }

    /** Nothing waits any more, the text is wrong, and what can be undone is undone. */
    private static Teleprompter atTheEnd() {
        Teleprompter t = new Teleprompter();
        rewrite(t, "ab/");
        t.load();
        hearAll(t, "ab");
        t.release();
        t.keep(1);
        while (t.undo() > 0) {
            t.fault(0);
        }
        t.back(1);
        for (int i = 0; i < 8; i++) {
            t.tick(1);
        }
        rewrite(t, "x");
        return t;
    }

    private void endOfTheScript() {
        addOutOfRange(2, 1);
        add("release of a released cue", STATE, t -> t.release());
        add("back(0) with image 1 alone", STATE, t -> t.back(0));
        add("told(16)", NONE, t -> t.told(16));
        add("reached", 0, t -> t.reached(1));
        add("rehearse", 2, t -> t.rehearse(10, 3));
        changeNothing("at the end", RefusalsTest::atTheEnd);
    }

    private void nothingToUndo() {
        add("undo of none", STATE, t -> t.undo());
        changeNothing("midway, 8 changes undone", then(UnchangedChecks::midway, t -> {
            for (int i = 0; i < 8; i++) {
                t.tick(1);
            }
            for (int i = 0; i < 8; i++) {
                t.undo();
            }
        }));
    }

    private void undoneToTheStart() {
        Supplier<Teleprompter> run = () -> {
            Teleprompter t = busy();
            for (int i = 0; i < 8; i++) {
                t.undo();
            }
            return t;
        };
        add("undo of none", STATE, t -> t.undo());
        changeNothing("undone", run);
    }

    private void fullScript() {
        Supplier<Teleprompter> run = () -> {
            Teleprompter t = new Teleprompter();
            rewrite(t, "a".repeat(119) + "b/");
            t.load();
            t.hear('a');
            return t;
        };
        add("word 120", BAD, t -> t.word(120, 0));
        add("place 120", BAD, t -> t.place(120));
        add("reached 120", BAD, t -> t.reached(120));
        add("row 24", BAD, t -> t.row(24, 0));
        add("unique of word 100", NONE, t -> t.unique(100));
        add("rehearse", 120, t -> t.rehearse(10, 3));
        changeNothing("120 words", run);
    }

    // "except the latest fault": load() with the result STATE, by each kind of fault
    private void loadOfAFault() {
        String[] texts = {"ab!", "a /", "a||b", "a".repeat(121), "ab|", ""};
        int[][] faults = {{1, 2}, {2, 2}, {3, 2}, {4, 120}, {5, 3}, {5, 0}};
        for (int i = 0; i < texts.length; i++) {
            loadFinds(texts[i], faults[i], RefusalsTest::busy, new int[] {5, 5});
            loadFinds(texts[i], faults[i], UnchangedChecks::midway, new int[] {2, 3});
        }
    }

    private void loadFinds(String text, int[] fault, Supplier<Teleprompter> situation, int[] faultBefore) {
        Supplier<Teleprompter> before = then(situation, t -> rewrite(t, text));
        Supplier<Teleprompter> behind = then(before, t -> t.load());
        due("load of " + text, before.get().load(), STATE);
        same("load of " + text + " has changed something", View.allButFault(behind), View.allButFault(before));
        for (int what = 0; what < 2; what++) {
            due("fault(" + what + ") before " + text, before.get().fault(what), faultBefore[what]);
            due("fault(" + what + ") behind " + text, behind.get().fault(what), fault[what]);
        }
    }

    // "If several of them apply to one call, the first one in this list is returned", "it is returned only if no
    // error code applies"
    private void firstCodeOfSeveral() {
        Teleprompter t = new Teleprompter();
        rewrite(t, " ".repeat(140));
        due("BAD before FULL", t.write(31), BAD);
        due("BAD before FULL", t.write(127), BAD);
        due("FULL", t.write(32), FULL);
        due("BAD before STATE", t.back(2), BAD);
        due("BAD before STATE", t.back(-1), BAD);
        due("STATE", t.back(1), STATE);
        due("BAD before NONE", t.fault(2), BAD);
        due("BAD before NONE", t.trail(0, 2), BAD);
        due("BAD before NONE", t.trail(5, -1), BAD);
        due("BAD before NONE", t.trail(-1, 0), BAD);
        due("BAD before NONE", t.best('b', 3), BAD);
        due("BAD before NONE", t.best('b', -1), BAD);
        due("BAD before NONE", t.heard(-1), BAD);
        due("BAD before NONE", t.reached(1), BAD);
        due("BAD before NONE", t.unique(1), BAD);
        due("two bad arguments", t.word(1, 5), BAD);
        due("two bad arguments", t.row(1, 2), BAD);
        due("two bad arguments", t.set(9, -1), BAD);
        due("two bad arguments", t.rehearse(11, 4), BAD);
    }

    public static void main(String[] args) {
        RefusalsTest test = new RefusalsTest();
        test.newObject();
        test.busyObject();
        test.midwayObject();
        test.endOfTheScript();
        test.nothingToUndo();
        test.undoneToTheStart();
        test.fullScript();
        test.loadOfAFault();
        test.firstCodeOfSeveral();
        test.end();
    }
}
