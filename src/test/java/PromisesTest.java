/** A test for each promise of the document: ordinary inputs, the edges that it names, and wrong inputs. */
public final class PromisesTest {
    private static final int BAD = -1, STATE = -2, FULL = -3, NONE = -9;
    private static final Checks checks = new Checks();

    private static void due(String call, double got, double want) {
        checks.due(call, got, want);
    }

    private static Teleprompter loaded(String text) {
        return checks.loaded(text);
    }

    private static String times(int n, String part) {
        return part.repeat(n);
    }

    /** Checks a run of numbers that told() tells, from one of them on. */
    private static void told(String when, Teleprompter t, int from, int... want) {
        for (int i = 0; i < want.length; i++) {
            due(when + ": told(" + (from + i) + ")", t.told(from + i), want[i]);
        }
    }

    private static void fault(String text, int kind, int place) {
        Teleprompter t = new Teleprompter();
        Checks.rewrite(t, text);
        due("load of " + text, t.load(), STATE);
        due("kind of fault in " + text, t.fault(0), kind);
        due("place of fault in " + text, t.fault(1), place);
        told("a text with a fault is not read", t, 0, 1, 1, 1, 0);
        due("a load with STATE is not recorded", t.told(18), 0);
    }

    private static void promise1NewObject() {
        Teleprompter t = new Teleprompter();
        told("new", t, 0, 1, 1, 1, 0, 0, 0, 0, 0, 0, 0, 0, 0, 0, 0, 0, 0, NONE, 0, 0);
        due("new: its word", t.word(0, 0), 'a');
        due("new: no fault", t.fault(0), NONE);
        due("new: no image 0", t.back(0), STATE);
        due("new: no image 1", t.back(1), STATE);
        due("new: nothing to undo", t.undo(), STATE);
        due("new: the text is empty", t.wipe(), 0);
        int[] first = {5, 3, 1, 8, 15, 2, 20, 25, 2};
        for (int s = 0; s < first.length; s++) {
            due("new: setting " + s, t.setting(s), first[s]);
        }
    }

    private static void promise2Load() {
        Teleprompter t = loaded(" ab/ c|d e/| f ");
        told("loaded", t, 0, 6, 3, 3, 2);
        due("word behind blanks", t.word(2, 0), 'c');
        due("cue at 1", t.word(1, 3), 1);
        due("passage of 3", t.word(3, 2), 1);
        t.set(0, 2);
        t.hear('a');
        t.tick(7);
        t.hear('b');
        t.hear('z');
        t.keep(1);
        Checks.rewrite(t, "xy/");
        due("loads again", t.load(), 2);
        told("loaded again", t, 0, 2, 1, 1, 1, 0, 0, 0, 0, 0, 0, 0, 0, 0, 0, 0, 0, 1, 0, 7);
        due("settings stay", t.setting(0), 2);
        due("what was read stays as text", t.wipe(), 3);
        due("undo of load", t.undo(), 6);
        told("undo of load", t, 0, 6, 4, 3, 2, 7, 2);
        due("images stay", t.back(1), 2);
        due("most words", loaded(times(120, "a")).told(0), 120);
        due("cue behind the last of them", loaded(times(120, "a") + "/").told(3), 1);
        fault("", 5, 0);
        fault("  ", 5, 2);
        fault("ab| ", 5, 4);
        fault("aA", 1, 1);
        fault("a{", 1, 1);
        fault("a`", 1, 1);
        fault("a.|", 1, 1);
        fault("/a", 2, 0);
        fault("a /", 2, 2);
        fault("a//", 2, 2);
        fault("a|/", 2, 2);
        fault("|a", 3, 0);
        fault(" |a", 3, 1);
        fault("a||b", 3, 2);
        fault("a| |b", 3, 3);
        fault("a/||", 3, 3);
        fault(times(121, "a"), 4, 120);
        fault(times(60, "ab") + " |c!", 4, 122);
        fault("a/ /!", 2, 3);
    }

    private static void promise3Set() {
        int[] least = {1, 1, 0, 0, 1, 1, 1, 1, 0};
        int[] most = {12, 8, 7, 30, 60, 4, 60, 100, 10};
        for (int s = 0; s < least.length; s++) {
            Teleprompter t = new Teleprompter();
            int first = t.setting(s);
            due("set below, " + s, t.set(s, least[s] - 1), BAD);
            due("set above, " + s, t.set(s, most[s] + 1), BAD);
            due("refused sets are not recorded", t.told(18), 0);
            due("set least, " + s, t.set(s, least[s]), first);
            due("set most, " + s, t.set(s, most[s]), least[s]);
            due("set same, " + s, t.set(s, most[s]), most[s]);
            due("setting, " + s, t.setting(s), most[s]);
            due("sets are recorded", t.told(18), 3);
        }
        Teleprompter t = new Teleprompter();
        due("no setting -1", t.set(-1, 1), BAD);
        due("no setting 9", t.set(9, 1), BAD);
        due("no such setting", t.set(Integer.MAX_VALUE, 1), BAD);

        Teleprompter s = loaded(times(30, "a") + "|bc");
        s.set(0, 1);
        s.place(31);
        s.tick(1);
        due("top of 32 rows", s.told(8), 2900);
        s.set(1, 8);
        due("top is limited by height", s.told(8), 2400);
        s.set(0, 12);
        told("fewer rows than the height", s, 8, 0, 0);
        due("laid anew", s.told(1), 4);

        Teleprompter m = loaded("abcdef");
        m.hear('a');
        m.tick(1);
        m.hear('b');
        m.tick(3);
        m.set(6, 1);
        due("the trail is cut only by the next word", m.told(15), 2);
        m.hear('c');
        due("the trail is cut then", m.told(15), 1);
    }

    private static void promise4Hear() {
        Teleprompter t = loaded("abcdefgh");
        due("no letter below", t.hear('a' - 1), BAD);
        due("no letter above", t.hear('z' + 1), BAD);
        due("refused words are not recorded", t.told(18), 1);
        due("expected word", t.hear('a'), 1);
        due("far word with score 1", t.hear('f'), NONE);
        due("missed word with score 1 behind it", t.hear('h'), NONE);
        due("misses", t.told(12), 2);
        due("misses are recorded and kept", t.told(18) + 10 * t.told(17), 34);
        due("a word that is nowhere", t.hear('z'), NONE);
        t.hear('c');
        due("position stays", t.told(5), 1);
        due("skip by two words", t.hear('d'), 4);
        told("skip", t, 10, 1, 0, 4);
        due("repeat, missed", t.hear('b'), NONE);
        due("repeat", t.hear('c'), 3);
        told("repeat", t, 10, 1, 1, 5);
        Checks.hearAll(t, "defgh");
        due("at the end", t.told(5), 8);
        due("nothing behind the end", t.hear('a'), NONE);

        Teleprompter w = loaded("xbcdefghijklmnopx");
        w.set(5, 1);
        w.set(4, 15);
        w.hear('x');
        due("16 is 15 ahead of 1, 0 is one back", w.best('x', 0), 0);
        w.set(3, 0);
        due("16 is 15 ahead of 1", w.best('x', 0), 16);
        w.set(4, 14);
        due("16 is beyond 14 ahead of 1", w.best('x', 0), NONE);
        due("not found", w.hear('x'), NONE);

        Teleprompter o = loaded("a/bc/d/e");
        o.set(5, 1);
        o.hear('a');
        due("its own cue waits", o.word(0, 3), 1);
        o.hear('b');
        due("passed", o.word(0, 3), 3);
        due("overrun", o.told(14), 1);
        o.release();
        o.hear('e');
        due("released ones are not passed", o.word(2, 3), 2);
        due("waiting ones are", o.word(3, 3), 3);
        due("and counted", o.told(14), 2);
        o.hear('a');
        due("passed cues stay so in a repeat", o.word(0, 3), 3);

        Teleprompter n = loaded("ababab");
        n.set(5, 4);
        n.hear('a');
        due("the expected one of three with one score", n.hear('b'), 2);
        due("a lower score than the need", n.hear('b'), NONE);
        due("is a miss", n.told(12), 1);
    }

    private static void promise4Speed() {
        Teleprompter t = loaded("abcdefghijklmnop");
        t.hear('a');
        told("one pair", t, 15, 1);
        due("speed stays", t.told(6), 0);
        t.tick(3);
        t.hear('b');
        due("speed rounds down", t.told(6), 33);
        t.hear('c');
        told("one pair a time", t, 15, 2);
        due("newer pair of the same time", t.trail(1, 1), 3);
        due("speed by it", t.told(6), 66);
        t.tick(17);
        t.hear('d');
        due("20 ticks back", t.told(15), 3);
        t.tick(1);
        t.hear('e');
        due("21 ticks back", t.told(15), 3);
        due("oldest time", t.trail(0, 0), 3);
        due("speed from 3 to 21", t.told(6), 11);
        t.hear('h');
        t.hear('j');
        t.hear('l');
        told("misses leave the trail", t, 15, 3);
        t.set(5, 1);
        t.hear('i');
        told("a skip leaves one pair", t, 15, 1);
        due("the speed stays then", t.told(6), 11);
        t.tick(30);
        t.hear('j');
        due("all older pairs gone", t.trail(0, 0), 51);
        due("the speed stays with one pair", t.told(6), 11);
        t.hear('b');
        told("a repeat leaves one pair", t, 15, 1);

        Teleprompter m = loaded(times(4, "abcdefghijklmnopqrstuvwxyz"));
        m.set(6, 60);
        for (int i = 0; i < 80; i++) {
            m.hear('a' + i % 26);
            m.tick(1);
        }
        due("most pairs", m.told(15), 61);
        due("oldest of them", m.trail(0, 0), 19);
        due("its position", m.trail(0, 1), 20);
        due("latest of them", m.trail(60, 0), 79);
        due("none behind", m.trail(61, 0), NONE);
        due("speed", m.told(6), 100);
    }

    private static void promise5Tick() {
        Teleprompter t = loaded(times(20, "ab|"  ) + "c");
        due("no ticks", t.tick(0), BAD);
        due("too many", t.tick(101), BAD);
        due("refused ticks are not recorded", t.told(18), 1);
        due("one", t.tick(1), 0);
        due("a hundred", t.tick(100), 0);
        told("time", t, 4, 101);
        due("one change each", t.told(18), 3);
        t.place(10);
        told("desired", t, 7, 10, 0, 400);
        due("jerk: row 5 is below", t.tick(1), 1);
        told("nearest top that shows it", t, 8, 300, 400);
        due("by the limit", t.tick(2), 0);
        due("moved", t.told(8), 350);
        t.tick(3);
        due("not beyond the desired one", t.told(8), 400);
        t.place(2);
        due("jerk: row 1 is above", t.tick(1), 1);
        told("nearest top that shows it", t, 8, 100, 0);
        told("jerks", t, 13, 2);
        t.tick(3);
        due("upward by the limit", t.told(8), 25);
        t.tick(1);
        due("upward to the desired one", t.told(8), 0);

        Teleprompter s = loaded(times(3, "ab|") + "cd");
        s.set(1, 2);
        s.set(7, 100);
        s.place(7);
        due("desired is limited to T", s.told(9), 200);
        s.set(2, 7);
        due("the focus counts as the height less 1", s.told(9), 200);
        s.place(4);
        due("row 2 less 1", s.told(9), 100);
        s.tick(1);
        due("row 2 is shown as the last one", s.told(13), 0);
        due("top", s.told(8), 100);
    }

    private static void promise5Estimate() {
        Teleprompter t = loaded("abcde/fghijklmnopqrst|" + times(20, "ab"));
        t.hear('a');
        t.tick(4);
        t.hear('b');
        due("speed", t.told(6), 25);
        due("2 and 2 ticks of lag", t.told(7), 2);
        t.tick(2);
        due("2 and 4 ticks", t.told(7), 3);
        t.tick(50);
        due("held at the cue", t.told(7), 4);
        due("cue", t.told(16), 4);
        t.release();
        due("let go", t.told(7), 15);
        t.tick(100);
        t.tick(100);
        due("not beyond the last one", t.told(7), 59);
        t.set(8, 0);
        t.place(0);
        due("no lag", t.told(7), 0);
        t.tick(3);
        due("75 hundredths", t.told(7), 0);
        t.tick(1);
        due("the time counts from place on", t.told(7), 1);
        t.hear('z');
        due("a miss is no word heard last", t.told(7), 1);
    }

    private static void promise6Release() {
        Teleprompter t = loaded("ab/c/d");
        due("first cue", t.release(), 1);
        due("released", t.word(1, 3), 2);
        due("the next one", t.told(16), 2);
        due("second cue", t.release(), 2);
        due("no more cue", t.release(), STATE);
        told("no next cue", t, 16, NONE);
        due("releases are recorded, refusals not", t.told(18), 3);
        due("cues are still cues", t.told(3), 2);
        due("no cue at all", new Teleprompter().release(), STATE);
    }

    private static void promise7Place() {
        Teleprompter t = loaded("a/b/c/d/e/f");
        t.hear('a');
        t.tick(2);
        t.hear('b');
        t.release();
        t.release();
        due("speed", t.told(6), 50);
        due("no word -1", t.place(-1), BAD);
        due("no word n", t.place(6), BAD);
        due("a word, previous position", t.place(2), 2);
        due("kept words forgotten", t.told(17), 0);
        due("trail forgotten", t.told(15), 0);
        due("speed stays", t.told(6), 50);
        due("cue 1, released, is passed", t.word(1, 3), 3);
        due("cue 2, released, waits again", t.word(2, 3), 1);
        due("not counted", t.told(14), 1);
        due("to the start", t.place(0), 2);
        due("cue 0, passed, waits again", t.word(0, 3), 1);
        due("to the last", t.place(5), 0);
        due("cue 4 is passed", t.word(4, 3), 3);
        due("a word without cue has none", t.word(5, 3), 0);
        due("no cue waits", t.told(16), NONE);
        told("no skip or repeat", t, 10, 0, 0);
        due("changes", t.told(18), 8);
    }

    private static void promise8Undo() {
        Teleprompter t = loaded("abcde/f");
        due("one change", t.undo(), 0);
        told("as new", t, 0, 1, 1, 1, 0);
        due("no change", t.undo(), STATE);
        t.load();
        t.set(0, 2);
        t.hear('a');
        t.tick(5);
        t.hear('z');
        t.hear('b');
        t.release();
        due("seven", t.told(18), 7);
        due("undo release", t.undo(), 6);
        due("waits again", t.word(4, 3), 1);
        due("undo hear", t.undo(), 5);
        told("position and speed", t, 5, 1, 0);
        due("trail", t.told(15), 1);
        due("heard", t.heard(0), 'z');
        due("undo a miss", t.undo(), 4);
        due("misses", t.told(12), 0);
        due("undo tick", t.undo(), 3);
        due("time", t.told(4), 0);
        due("undo hear", t.undo(), 2);
        due("undo set", t.undo(), 1);
        due("setting", t.setting(0), 5);
        due("rows", t.told(1), 2);
        for (int i = 0; i < 12; i++) {
            t.tick(1);
        }
        due("eight at most", t.told(18), 8);
        t.write('!');
        t.load();
        for (int i = 7; i >= 0; i--) {
            due("undo down", t.undo(), i);
            due("time", t.told(4), 4 + i);
        }
        due("the oldest are dropped", t.undo(), STATE);
        due("the fault stays", t.fault(0), 1);
        due("the text stays", t.wipe(), 8);
    }

    private static void promise9Write() {
        Teleprompter t = new Teleprompter();
        due("31", t.write(31), BAD);
        due("127", t.write(127), BAD);
        due("32", t.write(32), 1);
        due("126", t.write(126), 2);
        for (int i = 3; i <= 140; i++) {
            due("fill", t.write('a'), i);
        }
        due("full", t.write('a'), FULL);
        due("bad before full", t.write(31), BAD);
        due("still 140", t.wipe(), 140);
        due("no change", t.told(18), 0);
    }

    private static void promise10Wipe() {
        Teleprompter t = loaded("ab");
        due("length", t.wipe(), 2);
        due("empty", t.wipe(), 0);
        due("script stays", t.told(0), 2);
        due("no change", t.told(18), 1);
        due("from the start", t.write('c'), 1);
        due("only the new text", t.load(), 1);
        due("its word", t.word(0, 0), 'c');
    }

    private static void promise11Fault() {
        Teleprompter t = new Teleprompter();
        due("none", t.fault(1), NONE);
        due("bad before none", t.fault(2), BAD);
        due("bad before none", t.fault(-1), BAD);
        Checks.rewrite(t, "ab/ /");
        t.load();
        due("kind", t.fault(0), 2);
        due("place", t.fault(1), 4);
        due("bad", t.fault(2), BAD);
        Checks.rewrite(t, "ab");
        due("no fault", t.load(), 2);
        due("the latest one is still told", t.fault(1), 4);
        Checks.rewrite(t, "ab|");
        t.load();
        due("a later one", t.fault(0), 5);
        due("its place", t.fault(1), 3);
        t.undo();
        due("undo leaves it", t.fault(0), 5);
    }

    private static void promise12Told() {
        Teleprompter t = loaded("abcd/e|fghijk");
        t.set(0, 2);
        t.set(5, 1);
        t.set(1, 1);
        t.hear('a');
        t.tick(4);
        t.hear('c');
        t.tick(1);
        t.hear('b');
        t.tick(2);
        t.hear('c');
        t.hear('z');
        told("all", t, 0, 11, 6, 2, 1, 7, 3, 50, 3, 100, 100, 1, 1, 1, 1, 0, 2, 3, 4, 8);
        due("below", t.told(-1), BAD);
        due("above", t.told(19), BAD);
    }

    private static void promise13Setting() {
        Teleprompter t = new Teleprompter();
        due("below", t.setting(-1), BAD);
        due("above", t.setting(9), BAD);
        t.set(7, 100);
        due("changed", t.setting(7), 100);
        due("the next one not", t.setting(8), 2);
    }

    private static void promise14Word() {
        Teleprompter t = loaded("abcdefg/hij|k|lm/n");
        int[][] want = {{'a', 0, 0, 0, 1}, {'g', 1, 0, 1, 1}, {'k', 2, 1, 0, 1}, {'m', 3, 2, 1, 0}};
        int[] words = {0, 6, 10, 12};
        for (int i = 0; i < words.length; i++) {
            for (int what = 0; what < 5; what++) {
                due("word(" + words[i] + ", " + what + ")", t.word(words[i], what), want[i][what]);
            }
        }
        t.place(13);
        t.tick(1);
        due("row 0 is cut off", t.word(0, 4), 0);
        due("row 3 is shown", t.word(13, 4), 1);
        due("passed", t.word(6, 3), 3);
        due("no word -1", t.word(-1, 0), BAD);
        due("no word n", t.word(14, 0), BAD);
        due("nothing -1", t.word(0, -1), BAD);
        due("nothing 5", t.word(0, 5), BAD);
    }

    private static void promise15Row() {
        Teleprompter t = loaded("abcdefg|hijkl|m");
        int[][] want = {{0, 5}, {5, 2}, {7, 5}, {12, 1}};
        for (int row = 0; row < want.length; row++) {
            due("first of row " + row, t.row(row, 0), want[row][0]);
            due("length of row " + row, t.row(row, 1), want[row][1]);
        }
        due("no row -1", t.row(-1, 0), BAD);
        due("no row R", t.row(4, 0), BAD);
        due("nothing -1", t.row(0, -1), BAD);
        due("nothing 2", t.row(0, 2), BAD);
        t.set(0, 1);
        due("rows laid anew", t.row(12, 0), 12);
    }

    private static void promise16Heard() {
        Teleprompter t = loaded("abcde");
        due("none", t.heard(0), NONE);
        Checks.hearAll(t, "abzde");
        String latest = "edzb";
        for (int k = 0; k < 4; k++) {
            due("heard(" + k + ")", t.heard(k), latest.charAt(k));
        }
        due("four at most", t.heard(4), NONE);
        due("far", t.heard(Integer.MAX_VALUE), NONE);
        due("negative", t.heard(-1), BAD);
    }

    private static void promise17Trail() {
        Teleprompter t = loaded("abcde");
        due("none", t.trail(0, 0), NONE);
        due("bad before none", t.trail(0, 2), BAD);
        t.tick(3);
        t.hear('a');
        t.tick(2);
        t.hear('b');
        int[][] want = {{3, 1}, {5, 2}};
        for (int k = 0; k < 2; k++) {
            due("time of " + k, t.trail(k, 0), want[k][0]);
            due("position of " + k, t.trail(k, 1), want[k][1]);
        }
        due("no third", t.trail(2, 0), NONE);
        due("far", t.trail(Integer.MAX_VALUE, 1), NONE);
        due("negative", t.trail(-1, 0), BAD);
        due("nothing -1", t.trail(0, -1), BAD);
        due("nothing 2", t.trail(5, 2), BAD);
    }

    private static void promise18Score() {
        Teleprompter t = loaded("abcdeabcdx" + times(60, "z") + "abcdx");
        due("nothing heard", t.score(3), 1);
        Checks.hearAll(t, "abc");
        due("three before", t.score(3), 4);
        due("three before, elsewhere", t.score(8), 4);
        due("three before, out of the window", t.score(73), 4);
        due("others", t.score(4), 1);
        Checks.hearAll(t, "d");
        due("three at most", t.score(4), 4);
        t.hear('a');
        due("the first word has none before it", t.score(0), 1);
        due("one only before it", t.score(1), 2);
        t.hear('d');
        due("up to the first that is not", t.score(4), 2);
        due("no word -1", t.score(-1), BAD);
        due("no word n", t.score(75), BAD);
    }

    private static void promise19Best() {
        Teleprompter t = loaded("abcabxab");
        due("nearest", t.best('a', 0), 0);
        due("expected", t.best('a', 2), 1);
        due("score", t.best('a', 1), 1);
        due("b is near", t.best('b', 0), 1);
        due("but not accepted", t.best('b', 2), 0);
        t.set(5, 1);
        due("accepted by a need of 1", t.best('b', 2), 1);
        t.set(5, 2);
        due("none", t.best('z', 0), NONE);
        due("none", t.best('z', 1), NONE);
        due("none", t.best('z', 2), NONE);
        due("below", t.best('a' - 1, 0), BAD);
        due("above", t.best('z' + 1, 0), BAD);
        due("bad before none", t.best('z', 3), BAD);
        due("nothing -1", t.best('a', -1), BAD);
        t.place(5);
        due("of two the nearer one", t.best('a', 0), 6);
        t.place(2);
        due("the nearest b", t.best('b', 0), 1);
        t.hear('x');
        due("a score counts more than to be near", t.best('a', 0), 6);
        due("its score", t.best('a', 1), 2);

        Teleprompter e = loaded("abcba");
        e.place(2);
        due("of two as near the lesser one", e.best('b', 0), 1);
        due("of two as near the lesser one, farther", e.best('a', 0), 0);
        due("asking changes nothing", e.told(18), 2);
        due("nor is it heard", e.told(17), 0);

        Teleprompter f = loaded(times(31, "a") + "b" + times(60, "c") + "d");
        f.set(3, 30);
        f.set(4, 60);
        f.place(31);
        due("p itself", f.best('b', 0), 31);
        due("61 ahead", f.best('d', 0), NONE);
        f.set(3, 29);
        due("nearest back", f.best('a', 0), 30);
        f.set(3, 0);
        due("none back", f.best('a', 0), NONE);
        f.place(32);
        due("60 ahead", f.best('d', 0), 92);
    }

    private static void promise20Unique() {
        Teleprompter t = loaded("abcdxbcd|ybcdxbcd");
        due("one", t.unique(0), 1);
        due("two", t.unique(1), 2);
        due("three", t.unique(2), 3);
        due("four", t.unique(3), 4);
        due("more than four", t.unique(7), NONE);
        due("y", t.unique(8), 1);
        due("over the passage", t.unique(9), 2);
        Teleprompter s = loaded("aba");
        due("not so many before it", s.unique(0), NONE);
        due("two", s.unique(2), 2);
        due("places that overlap", loaded("aaa").unique(2), 3);
        due("overlap is elsewhere", loaded("aaa").unique(1), NONE);
        due("no word -1", s.unique(-1), BAD);
        due("no word n", s.unique(3), BAD);
    }

    private static void promise21Mean() {
        due("new", new Teleprompter().mean(), 1.0f);
        due("7 words in 3 rows", loaded("abcdef|g").mean(), 7.0f / 3.0f);
        checks.due("a float, not a double", loaded("abcdef|g").mean() != 7.0 / 3.0);
        Teleprompter t = loaded("abcdefg");
        t.set(0, 12);
        due("one row", t.mean(), 7.0f);
    }

    private static void promise22Reached() {
        Teleprompter t = loaded("abcdefghi/j");
        due("now", t.reached(0), 0);
        due("without speed", t.reached(1), NONE);
        t.hear('a');
        t.tick(2);
        t.hear('b');
        due("now", t.reached(3), 0);
        due("100 * 4 is 200 + 50 * 4", t.reached(4), 2);
        due("the cue itself", t.reached(8), 10);
        due("behind the cue", t.reached(9), NONE);
        due("no word -1", t.reached(-1), BAD);
        due("no word n", t.reached(10), BAD);
        due("time stays", t.told(4), 2);
        t.release();
        due("let go", t.reached(9), 12);

        Teleprompter s = loaded("abcdefghij");
        s.set(6, 60);
        s.set(8, 0);
        s.hear('a');
        s.tick(50);
        s.hear('b');
        due("speed", s.told(6), 2);
        due("50 ticks a word", s.reached(3), 50);
        s.set(8, 10);
        s.place(0);
        due("490 ticks and the lag", s.reached(1), 40);
        s.set(8, 0);
        due("450 ticks", s.reached(9), 450);
        Teleprompter u = loaded("abcdefghijklmno");
        u.set(6, 60);
        u.set(8, 0);
        u.hear('a');
        u.tick(50);
        u.hear('b');
        u.place(0);
        due("500 ticks", u.reached(10), 500);
        due("550 ticks", u.reached(11), NONE);
        u.set(8, 9);
        u.tick(40);
        due("550 ticks less 9 and 40", u.reached(11), NONE);
        u.tick(1);
        due("one less", u.reached(11), 500);
    }

    private static void promise23Rehearse() {
        Teleprompter t = loaded("abcdef/ghij|klmnopqrst");
        due("no pace", t.rehearse(0, 0), BAD);
        due("too great a pace", t.rehearse(11, 0), BAD);
        due("nothing -1", t.rehearse(1, -1), BAD);
        due("nothing 4", t.rehearse(1, 4), BAD);
        due("no jerks", t.rehearse(10, 0), 0);
        due("nor skips", t.rehearse(1, 1), 0);
        due("nor misses", t.rehearse(1, 2), 0);
        due("at the end", t.rehearse(1, 3), 20);
        told("only a copy", t, 4, 0, 0, 0);
        due("no change", t.told(18), 1);
        due("the cue waits", t.word(5, 3), 1);

        Teleprompter j = loaded(times(60, "ab"));
        j.set(0, 1);
        j.set(1, 1);
        j.set(8, 0);
        j.set(7, 1);
        due("a jerk in all ticks but the first and the last", j.rehearse(1, 0), 118);
        due("by a copy", j.told(13), 0);

        Teleprompter w = loaded("abcabcabd");
        w.set(5, 4);
        w.hear('a');
        w.hear('b');
        w.place(5);
        due("repeats or skips", w.rehearse(2, 1), 0);
        w.hear('z');
        due("a miss before it does not count", w.rehearse(2, 2), 0);
        w.place(8);
        w.hear('d');
        due("nothing left", w.rehearse(3, 2), 0);
        due("position at the end", w.rehearse(3, 3), 9);
        due("no jerks", w.rehearse(3, 0), 0);

        // Heard "x", the reader stands at 2; the a behind x at 5 scores 2, the expected one 1.
        Teleprompter s = loaded("bcadxaef");
        s.place(2);
        s.hear('x');
        s.hear('b');
        s.place(2);
        due("as it stands", s.rehearse(1, 1), 0);
        s.hear('x');
        due("a skip at once, as 5 is behind x, and a repeat to d", s.rehearse(1, 1), 2);
        due("no miss", s.rehearse(1, 2), 0);
        s.set(5, 3);
        due("5 and d at 3 are missed", s.rehearse(1, 2), 2);
        due("then a skip to x", s.rehearse(1, 1), 1);
        due("all the same at the end", s.rehearse(1, 3), 8);

        Teleprompter c = loaded("a/b/c/d/");
        due("past all cues", c.rehearse(1, 3), 4);
        c.set(0, 1);
        c.set(1, 1);
        c.set(7, 1);
        c.set(8, 0);
        // The estimate would be a word farther by the third tick, but the next cue holds it.
        due("cues are released ahead of the next word", c.rehearse(1, 0), 3);
        due("in the copy only", c.told(16), 0);
        Checks.rewrite(c, "bca/dxaef");
        c.load();
        c.hear('b');
        c.tick(1);
        c.hear('c');
        c.place(2);
        c.hear('x');
        c.set(5, 3);
        // The estimates are 2, held by the cue, then 4, 5, 6, 7 and 7: a and d are missed, x is a skip.
        due("a cue behind a missed word is released, too", c.rehearse(1, 0), 5);
        due("both misses", c.rehearse(1, 2), 2);
    }

    private static void promise24Keep() {
        Teleprompter t = loaded("abcdef");
        t.hear('a');
        t.tick(3);
        t.hear('b');
        due("below", t.keep(-1), BAD);
        due("above", t.keep(2), BAD);
        due("position", t.keep(0), 2);
        due("no change", t.told(18), 4);
        t.hear('c');
        due("the other one", t.keep(1), 3);
        t.hear('d');
        due("image 0", t.back(0), 2);
        due("its speed", t.told(6), 33);
        due("image 1", t.back(1), 3);
        t.place(5);
        due("replaced", t.keep(0), 5);
        t.place(0);
        due("image 0 again", t.back(0), 5);
        due("image 1 stays", t.back(1), 3);
    }

    private static void promise25Back() {
        Teleprompter t = loaded("abc/def");
        due("below", t.back(-1), BAD);
        due("above", t.back(2), BAD);
        due("nothing kept", t.back(0), STATE);
        due("not recorded", t.told(18), 1);
        t.set(0, 3);
        t.hear('a');
        t.tick(2);
        t.hear('b');
        t.keep(0);
        Checks.rewrite(t, "x");
        t.load();
        t.set(8, 9);
        due("changes", t.told(18), 7);
        due("back", t.back(0), 2);
        due("recorded behind the others", t.told(18), 8);
        told("as kept", t, 0, 6, 2, 1, 1, 2, 2, 50, 2, 0, 0, 0, 0, 0, 0, 0, 2, 2, 2);
        due("settings too", t.setting(8), 2);
        due("and rows", t.row(1, 0), 3);
        due("undone", t.undo(), 7);
        told("as before", t, 0, 1);
        due("settings", t.setting(8), 9);
        due("the text stays", t.wipe(), 1);
        due("the image stays", t.back(0), 2);
        t.hear('c');
        t.release();
        due("and is not changed by changes", t.back(0), 2);
        due("its cue waits", t.word(2, 3), 1);
        due("other image", t.back(1), STATE);
    }

    // The example in README.md
    private static void readme() {
        Teleprompter t = new Teleprompter();
        Checks.rewrite(t, "abcde/fg|hij");
        due("load", t.load(), 10);
        due("set", t.set(0, 4), 5);
        due("hear a", t.hear('a'), 1);
        due("tick", t.tick(3), 0);
        due("hear b", t.hear('b'), 2);
        due("speed", t.told(6), 33);
        due("estimated word", t.told(7), 2);
        due("release", t.release(), 4);
        due("undo", t.undo(), 5);
        due("the cue waits again", t.word(4, 3), 1);
        due("reached", t.reached(9), NONE);
        due("rehearse", t.rehearse(2, 2), 0);
    }

    private static void wildArguments() {
        int[] wild = {Integer.MIN_VALUE, -100, 200, Integer.MAX_VALUE};
        Teleprompter t = loaded("ab/c|d");
        for (int x : wild) {
            for (int call : new int[] {t.set(x, 1), t.set(0, x), t.hear(x), t.tick(x), t.place(x), t.write(x),
                t.fault(x), t.told(x), t.setting(x), t.word(x, 0), t.word(0, x), t.row(x, 0), t.row(0, x),
                t.trail(0, x), t.score(x), t.best(x, 0), t.best('a', x), t.unique(x), t.reached(x), t.rehearse(x, 0),
                t.rehearse(1, x), t.keep(x), t.back(x)}) {
                due("a call with " + x, call, BAD);
            }
        }
        due("nothing was recorded", t.told(18), 1);
    }

    public static void main(String[] args) {
        promise1NewObject();
        promise2Load();
        promise3Set();
        promise4Hear();
        promise4Speed();
        promise5Tick();
        promise5Estimate();
        promise6Release();
        promise7Place();
        promise8Undo();
        promise9Write();
        promise10Wipe();
        promise11Fault();
        promise12Told();
        promise13Setting();
        promise14Word();
        promise15Row();
        promise16Heard();
        promise17Trail();
        promise18Score();
        promise19Best();
        promise20Unique();
        promise21Mean();
        promise22Reached();
        promise23Rehearse();
        promise24Keep();
        promise25Back();
        readme();
        wildArguments();
        checks.end();
    }
}
