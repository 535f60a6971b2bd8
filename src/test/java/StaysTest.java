import java.util.ArrayList;
import java.util.List;
import java.util.Map;
import java.util.function.Consumer;
import java.util.function.Supplier;

/**
 * "Nothing is promised beyond the answers and state changes described above": what each method leaves as it
 * was. Methods that tell something change nothing at all; a change changes the numbers that the document
 * says, here listed by hand, and no other one; and it is undone wholly.
 */
public final class StaysTest extends UnchangedChecks {
    private static final Supplier<Teleprompter> MIDWAY = UnchangedChecks::midway;
    private static final String[] NO_WORDS = {"heard(0) is -9", "heard(1) is -9", "heard(2) is -9", "heard(3) is -9"};
    private static final String[] NO_PAIR_0 = {"trail(0, 0) is no more", "trail(0, 1) is no more"};
    private static final String[] NO_OTHER_PAIRS = {"trail(1, 0) is no more", "trail(1, 1) is no more",
        "trail(2, 0) is no more", "trail(2, 1) is no more", "trail(3, 0) is no more", "trail(3, 1) is no more"};

    /** Does a change, and checks that the listed numbers are other ones behind it, and none else; and its undo. */
    private void changes(String name, Supplier<Teleprompter> run, Consumer<Teleprompter> change, String... want) {
        Map<String, Integer> before = View.facts(run.get());
        Map<String, Integer> behind = View.facts(then(run, change).get());
        List<String> others = new ArrayList<>();
        for (String fact : behind.keySet()) {
            if (!behind.get(fact).equals(before.get(fact))) {
                others.add(fact + " is " + behind.get(fact));
            }
        }
        for (String fact : before.keySet()) {
            if (!behind.containsKey(fact)) {
                others.add(fact + " is no more");
            }
        }
        same(name, others, List.of(want));
        same("undo of " + name, View.all(then(then(run, change), t -> t.undo())), View.all(run));
    }

    private static List<String> without(List<String> lines, String... starts) {
        List<String> left = new ArrayList<>(lines);
        for (String start : starts) {
            left.removeIf(line -> line.startsWith(start));
        }
        return left;
    }

    // What the reader midway has: the numbers that the tests below begin with.
    private void midwayItself() {
        Teleprompter t = midway();
        told("midway", t, 0, 40, 20, 3, 4, 9, 12, 50, 15, 460, 500, 2, 1, 1, 4, 1, 4, 35, 4, 4);
        int[] settings = {2, 4, 2, 9, 16, 3, 30, 30, 3};
        for (int s = 0; s < 9; s++) {
            due("setting " + s, t.setting(s), settings[s]);
        }
        int[] pairs = {0, 9, 3, 10, 5, 11, 6, 12};
        for (int i = 0; i < 8; i++) {
            due("trail(" + i / 2 + ", " + i % 2 + ")", t.trail(i / 2, i % 2), pairs[i]);
        }
        for (int k = 0; k < 4; k++) {
            due("heard " + k, t.heard(k), "lkji".charAt(k));
        }
        due("cues", t.word(3, 3) * 1000 + t.word(7, 3) * 100 + t.word(35, 3) * 10 + t.word(37, 3), 3211);
        due("kind of fault", t.fault(0), 2);
        due("place of fault", t.fault(1), 3);
        due("image 0", t.back(0), 12);
        told("its time", t, 4, 6);
        due("image 1", t.back(1), 11);
        told("its time", t, 4, 6);
    }

    private void addTelling(int faultKind, int faultPlace) {
        for (int what = 0; what <= 18; what++) {
            int w = what;
            add("told " + w, midway().told(w), t -> t.told(w));
        }
        for (int setting = 0; setting < 9; setting++) {
            int s = setting;
            add("setting " + s, midway().setting(s), t -> t.setting(s));
        }
        int[] word15 = {'p', 7, 1, 0, 1};
        for (int what = 0; what < 5; what++) {
            int w = what;
            add("word, " + w, word15[w], t -> t.word(15, w));
        }
        add("word with a passed cue", 3, t -> t.word(3, 3));
        add("word not shown", 0, t -> t.word(9, 4));
        add("row, 0", 26, t -> t.row(13, 0));
        add("row, 1", 2, t -> t.row(13, 1));
        add("heard 0", 'l', t -> t.heard(0));
        add("heard 3", 'i', t -> t.heard(3));
        add("heard 4", NONE, t -> t.heard(4));
        add("trail, 0", 6, t -> t.trail(3, 0));
        add("trail, 1", 9, t -> t.trail(0, 1));
        add("trail behind the last pair", NONE, t -> t.trail(4, 0));
        add("fault, 0", faultKind, t -> t.fault(0));
        add("fault, 1", faultPlace, t -> t.fault(1));
    }

    private void addWorkedOut() {
        add("score of 12", 4, t -> t.score(12));
        add("score of 39", 1, t -> t.score(39));
        add("best of m", 12, t -> t.best('m', 0));
        add("its score", 4, t -> t.best('m', 1));
        add("best of m is accepted", 1, t -> t.best('m', 2));
        add("best of z", 25, t -> t.best('z', 0));
        add("best of z is not accepted", 0, t -> t.best('z', 2));
        add("unique of 14", 1, t -> t.unique(14));
        add("unique of 26", 2, t -> t.unique(26));
        add("unique of 39", NONE, t -> t.unique(39));
        add("mean", 1, t -> t.mean() == 2.0f ? 1 : 0);
        add("reached now", 0, t -> t.reached(15));
        add("reached", 2, t -> t.reached(16));
        add("reached behind the cue", NONE, t -> t.reached(36));
        add("misses in a rehearsal", 0, t -> t.rehearse(2, 2));
        add("skips and repeats in it", 0, t -> t.rehearse(2, 1));
        add("position behind it", 40, t -> t.rehearse(2, 3));
    }

    // A method that is no change, and neither writes nor keeps, changes nothing.
    private void tellingMidway() {
        addTelling(2, 3);
        addWorkedOut();
        changeNothing("midway", MIDWAY);
        addTelling(NONE, NONE);
        addWorkedOut();
        changeNothing("midway without a fault", UnchangedChecks::midwayWithoutFault);
        add("best of z, out of the window", NONE, t -> t.best('z', 0));
        add("its score", NONE, t -> t.best('z', 1));
        changeNothing("with a short window", then(MIDWAY, t -> t.set(4, 1)));
        add("no next cue", NONE, t -> t.told(16));
        add("release", STATE, t -> t.release());
        add("reached to the end", 48, t -> t.reached(39));
        changeNothing("with all cues released", then(MIDWAY, t -> {
            t.release();
            t.release();
        }));
    }

    // The same where there is nothing yet: no fault, no image, nothing heard.
    private void tellingAtFirst() {
        add("fault, 0", NONE, t -> t.fault(0));
        add("fault, 1", NONE, t -> t.fault(1));
        add("heard", NONE, t -> t.heard(0));
        add("trail", NONE, t -> t.trail(0, 0));
        add("told 7", 0, t -> t.told(7));
        add("setting 1", 3, t -> t.setting(1));
        add("word", 'a', t -> t.word(0, 0));
        add("row", 2, t -> t.row(0, 1));
        add("score", 1, t -> t.score(0));
        add("best", 1, t -> t.best('b', 0));
        add("best of none", NONE, t -> t.best('z', 0));
        add("unique", 1, t -> t.unique(1));
        add("mean", 1, t -> t.mean() == 2.0f ? 1 : 0);
        add("reached", NONE, t -> t.reached(1));
        add("reached now", 0, t -> t.reached(0));
        add("rehearse", 2, t -> t.rehearse(1, 3));
        changeNothing("at first", () -> loaded("ab"));
    }

    // Promise 4: the expected word, skips, a repeat and two kinds of a miss
    private void hearChanges() {
        changes("hear", MIDWAY, t -> t.hear('m'), "told(5) is 13", "told(6) is 44", "told(7) is 14", "told(15) is 5",
            "told(18) is 5", "heard(0) is 109", "heard(1) is 108", "heard(2) is 107", "heard(3) is 106",
            "trail(4, 0) is 9", "trail(4, 1) is 13");
        changes("a skip", then(MIDWAY, t -> hearAll(t, "xy")), t -> t.hear('z'), joined(new String[] {
            "told(5) is 26", "told(7) is 27", "told(9) is 1100", "told(10) is 3", "told(15) is 1", "told(18) is 7",
            "heard(0) is 122", "heard(1) is 121", "heard(2) is 120", "heard(3) is 108", "trail(0, 0) is 9",
            "trail(0, 1) is 26"}, NO_OTHER_PAIRS));
        changes("a repeat", then(MIDWAY, t -> hearAll(t, "de")), t -> t.hear('f'), joined(new String[] {
            "told(5) is 6", "told(7) is 7", "told(9) is 100", "told(11) is 2", "told(15) is 1", "told(18) is 7",
            "heard(0) is 102", "heard(1) is 101", "heard(2) is 100", "heard(3) is 108", "trail(0, 0) is 9",
            "trail(0, 1) is 6"}, NO_OTHER_PAIRS));
        changes("a skip over a cue", then(MIDWAY, t -> {
            t.set(3, 0);
            t.set(4, 60);
            t.set(5, 1);
        }), t -> t.hear('l'), joined(new String[] {"told(5) is 38", "told(7) is 37", "told(9) is 1600",
            "told(10) is 3", "told(14) is 2", "told(15) is 1", "told(16) is 37", "told(18) is 8", "heard(1) is 108",
            "heard(2) is 107", "heard(3) is 106", "trail(0, 0) is 9", "trail(0, 1) is 38", "cue(35) is 3"},
            NO_OTHER_PAIRS));
        changes("a miss below the need", MIDWAY, t -> t.hear('z'), "told(12) is 2", "told(18) is 5", "heard(0) is 122",
            "heard(1) is 108", "heard(2) is 107", "heard(3) is 106");
        changes("a miss without a candidate", then(MIDWAY, t -> t.set(4, 1)), t -> t.hear('z'), "told(12) is 2",
            "told(18) is 6", "heard(0) is 122", "heard(1) is 108", "heard(2) is 107", "heard(3) is 106");
    }

    // Promise 5
    private void tickChanges() {
        changes("a tick", MIDWAY, t -> t.tick(1), "told(4) is 10", "told(8) is 490", "told(18) is 5");
        changes("two ticks", MIDWAY, t -> t.tick(2), "told(4) is 11", "told(7) is 16", "told(8) is 520",
            "told(9) is 600", "told(18) is 5");
        changes("ticks up to the cue", MIDWAY, t -> t.tick(100), "told(4) is 109", "told(7) is 35", "told(8) is 1500",
            "told(9) is 1500", "told(18) is 5");
    }

    // Promise 6
    private void releaseChanges() {
        changes("release", MIDWAY, t -> t.release(), "told(16) is 37", "told(18) is 5", "cue(35) is 2");
        changes("release of the last one", then(MIDWAY, t -> t.release()), t -> t.release(), "told(16) is -9",
            "told(18) is 6", "cue(37) is 2");
        changes("release of the cue that holds", then(MIDWAY, t -> t.tick(100)), t -> t.release(), "told(7) is 37",
            "told(9) is 1600", "told(16) is 37", "told(18) is 6", "cue(35) is 2");
    }

    // Promise 7
    private void placeChanges() {
        changes("place before", MIDWAY, t -> t.place(5), joined(new String[] {"told(5) is 5", "told(7) is 6",
            "told(9) is 100", "told(15) is 0", "told(16) is 7", "told(17) is 0", "told(18) is 5"}, NO_WORDS,
            new String[] {"cue(7) is 1"}, NO_PAIR_0, NO_OTHER_PAIRS));
        changes("place behind", MIDWAY, t -> t.place(36), joined(new String[] {"told(5) is 36", "told(7) is 37",
            "told(9) is 1600", "told(15) is 0", "told(16) is 37", "told(17) is 0", "told(18) is 5"}, NO_WORDS,
            new String[] {"cue(7) is 3", "cue(35) is 3"}, NO_PAIR_0, NO_OTHER_PAIRS));
    }

    private static String[] joined(String[]... parts) {
        List<String> all = new ArrayList<>();
        for (String[] part : parts) {
            all.addAll(List.of(part));
        }
        return all.toArray(new String[0]);
    }

    // Promise 3: "nothing else changes before the next word or tick"
    private void setChanges() {
        changes("width", MIDWAY, t -> t.set(0, 3), "told(1) is 15", "told(9) is 300", "told(18) is 5",
            "setting(0) is 3");
        changes("width, and top", MIDWAY, t -> t.set(0, 12), "told(1) is 5", "told(8) is 100", "told(9) is 0",
            "told(18) is 5", "setting(0) is 12");
        changes("height", MIDWAY, t -> t.set(1, 3), "told(18) is 5", "setting(1) is 3");
        changes("height, and focus", MIDWAY, t -> t.set(1, 2), "told(9) is 600", "told(18) is 5", "setting(1) is 2");
        changes("focus", MIDWAY, t -> t.set(2, 1), "told(9) is 600", "told(18) is 5", "setting(2) is 1");
        changes("back", MIDWAY, t -> t.set(3, 0), "told(18) is 5", "setting(3) is 0");
        changes("ahead", MIDWAY, t -> t.set(4, 60), "told(18) is 5", "setting(4) is 60");
        changes("need", MIDWAY, t -> t.set(5, 4), "told(18) is 5", "setting(5) is 4");
        changes("memory", MIDWAY, t -> t.set(6, 1), "told(18) is 5", "setting(6) is 1");
        changes("scroll limit", MIDWAY, t -> t.set(7, 100), "told(18) is 5", "setting(7) is 100");
        changes("lag", MIDWAY, t -> t.set(8, 10), "told(7) is 18", "told(9) is 700", "told(18) is 5",
            "setting(8) is 10");
    }

    // Promise 2: "everything but the settings, the text and the images is as at first then, with this script"
    private void loadLeaves() {
        Supplier<Teleprompter> atFirst = () -> {
            Teleprompter t = new Teleprompter();
            rewrite(t, "pq/r|st u");
            t.load();
            for (int s = 0; s < 9; s++) {
                t.set(s, midway().setting(s));
            }
            return t;
        };
        Supplier<Teleprompter> loaded = then(MIDWAY, t -> t.load());
        same("load", View.state(loaded), View.state(atFirst));
        told("load", loaded.get(), 18, 5);
        same("undo of load", View.all(then(loaded, t -> t.undo())), View.all(MIDWAY));
    }

    // Promise 24: "replacing what it kept before. (This is no change.)"
    private void keepLeaves() {
        for (int i = 0; i < 2; i++) {
            int image = i;
            String[] kept = {"back to " + image, "image " + image};
            Supplier<Teleprompter> behind = then(MIDWAY, t -> t.keep(image));
            same("keep(" + image + ")", without(View.all(behind), kept), without(View.all(MIDWAY), kept));
            same("what it keeps", View.state(then(then(behind, t -> {
                hearAll(t, "mz");
                t.tick(9);
                t.release();
                rewrite(t, "x");
                t.load();
                t.set(7, 1);
            }), t -> t.back(image))), View.state(MIDWAY));
        }
    }

    // Promise 25: "Makes what an image keeps the present state; the image stays."
    private void backLeaves() {
        Supplier<Teleprompter> back = then(MIDWAY, t -> t.back(1));
        told("back", back.get(), 0, 40, 20, 3, 4, 6, 11, 40, 12, 300, 400, 2, 1, 1, 3, 1, 3, 35, 4, 5);
        same("undo of back", View.all(then(back, t -> t.undo())), View.all(MIDWAY));
        same("back again", View.all(then(then(back, t -> t.undo()), t -> t.back(1))), View.all(back));
        Supplier<Teleprompter> other = then(back, t -> t.hear('l'));
        same("as when it was kept: the same word is followed alike", View.state(other),
            View.state(then(MIDWAY, t -> t.back(0))));
    }

    // Promises 9 and 10: the text alone
    private void textLeaves() {
        String[] text = {"length of the text", "load of the text", "the text", "its fault", "the place"};
        same("write", without(View.all(then(MIDWAY, t -> t.write('v'))), text), without(View.all(MIDWAY), text));
        same("wipe", without(View.all(then(MIDWAY, t -> t.wipe())), text), without(View.all(MIDWAY), text));
        due("a letter is appended", then(MIDWAY, t -> t.write('v')).get().load(), 7);
        due("no letter is left", then(MIDWAY, t -> t.wipe()).get().load(), STATE);
        Supplier<Teleprompter> atFirst = () -> loaded("ab");
        same("write without a fault", without(View.all(then(atFirst, t -> t.write('v'))), text),
            without(View.all(atFirst), text));
        same("wipe without a fault", without(View.all(then(atFirst, t -> t.wipe())), text),
            without(View.all(atFirst), text));
    }

    // The latest fault is no part of a change, where there was none, either.
    private void changesWithoutAFault() {
        Supplier<Teleprompter> atFirst = () -> loaded("ab/cdef");
        changes("load", atFirst, t -> t.load(), "told(18) is 2");
        changes("hear", atFirst, t -> t.hear('a'), "told(5) is 1", "told(7) is 1", "told(15) is 1", "told(17) is 1",
            "told(18) is 2", "heard(0) is 97", "trail(0, 0) is 0", "trail(0, 1) is 1");
        changes("a miss", atFirst, t -> t.hear('f'), "told(12) is 1", "told(17) is 1", "told(18) is 2",
            "heard(0) is 102");
        changes("tick", atFirst, t -> t.tick(1), "told(4) is 1", "told(18) is 2");
        changes("release", atFirst, t -> t.release(), "told(16) is -9", "told(18) is 2", "cue(1) is 2");
        changes("set", atFirst, t -> t.set(7, 1), "told(18) is 2", "setting(7) is 1");
        changes("place", atFirst, t -> t.place(2), "told(5) is 2", "told(7) is 2", "told(16) is -9", "told(18) is 2",
            "cue(1) is 3");
        for (int what = 0; what < 2; what++) {
            due("no fault behind load", then(atFirst, t -> t.load()).get().fault(what), NONE);
            due("no fault behind hear", then(atFirst, t -> t.hear('a')).get().fault(what), NONE);
            due("no fault behind a miss", then(atFirst, t -> t.hear('f')).get().fault(what), NONE);
            due("no fault behind tick", then(atFirst, t -> t.tick(1)).get().fault(what), NONE);
            due("no fault behind release", then(atFirst, t -> t.release()).get().fault(what), NONE);
            due("no fault behind set", then(atFirst, t -> t.set(7, 1)).get().fault(what), NONE);
            due("no fault behind place", then(atFirst, t -> t.place(2)).get().fault(what), NONE);
            due("no fault behind keep", then(atFirst, t -> t.keep(0)).get().fault(what), NONE);
        }
    }

    public static void main(String[] args) {
        StaysTest test = new StaysTest();
        test.midwayItself();
        test.tellingMidway();
        test.tellingAtFirst();
        test.hearChanges();
        test.tickChanges();
        test.releaseChanges();
        test.placeChanges();
        test.setChanges();
        test.loadLeaves();
        test.keepLeaves();
        test.backLeaves();
        test.textLeaves();
        test.changesWithoutAFault();
        test.end();
    }
}
