import java.util.ArrayList;
import java.util.List;
import java.util.function.ToIntFunction;

/**
 * What holds behind every call, whatever was called before: runs of calls are chosen by a counter, and behind
 * each call its run is done again on new objects, which are asked. So no object comes to its 512th call, and
 * "the same calls always give the same answers" is tried, too.
 */
public final class AlwaysTest extends Checks {
    private static final int NAMES = 10;

    private final List<ToIntFunction<Teleprompter>> run = new ArrayList<>();
    private final List<Integer> answers = new ArrayList<>();
    private String name = "";
    private long seed = 20261120;

    private int below(int bound) {
        seed = seed * 6364136223846793005L + 1442695040888963407L;
        return (int) ((seed >>> 33) % bound);
    }

    private int between(int least, int most) {
        return least + below(most - least + 1);
    }

    private Teleprompter again() {
        Teleprompter t = new Teleprompter();
        for (int i = 0; i < run.size(); i++) {
            due(name + "call " + i + " answers as before", run.get(i).applyAsInt(t), answers.get(i));
        }
        return t;
    }

    private void step(ToIntFunction<Teleprompter> call) {
        answers.add(call.applyAsInt(again()));
        run.add(call);
    }

    private String text() {
        StringBuilder made = new StringBuilder();
        int letters = below(2) == 0 ? between(1, 4) : between(5, 26);
        int length = between(1, 60);
        for (int i = 0; i < length; i++) {
            made.append((char) ('a' + below(letters)));
            made.append(below(9) == 0 ? "/" : "").append(below(9) == 0 && i < length - 1 ? "|" : "");
        }
        return made.toString();
    }

    private ToIntFunction<Teleprompter> randomStep(Teleprompter t) {
        int setting = below(9);
        int[] least = {1, 1, 0, 0, 1, 1, 1, 1, 0};
        int[] most = {12, 8, 7, 30, 60, 4, 60, 100, 10};
        int value = between(least[setting], most[setting]);
        int word = below(t.told(0));
        int near = Math.max(0, Math.min(t.told(0) - 1, t.told(5) + (below(3) == 0 ? between(-8, 12) : 0)));
        int letter = below(12) == 0 ? between('a', 'z') : t.word(near, 0);
        int image = below(2);
        int ticks = below(8) == 0 ? between(5, 100) : between(1, 4);
        switch (below(NAMES)) {
            case 0: return o -> o.set(setting, value);
            case 1: return o -> o.release();
            case 2: return below(3) == 0 ? o -> o.place(word) : o -> o.keep(image);
            case 3: return below(2) == 0 ? o -> o.undo() : o -> o.back(image);
            case 4: case 5: case 6: return o -> o.tick(ticks);
            default: return o -> o.hear(letter);
        }
    }

    private void within(String what, int number, int least, int most) {
        due(name + what + " is " + number + ", not within " + least + " and " + most, number >= least && number <= most);
    }

    // The ranges that the document says or that follow from it; so no division is of a negative number.
    private void ranges() {
        Teleprompter t = again();
        int n = t.told(0);
        int cue = t.told(16);
        within("words", n, 1, 120);
        within("rows", t.told(1), t.told(2), n);
        within("passages", t.told(2), 1, n);
        within("time", t.told(4), 0, 51200);
        within("position", t.told(5), 0, n);
        within("speed", t.told(6), 0, 12000);
        within("estimated word", t.told(7), 0, cue == NONE ? n - 1 : cue);
        within("top", t.told(8), 0, Math.max(0, 100 * (t.told(1) - t.setting(1))));
        within("desired top", t.told(9), 0, Math.max(0, 100 * (t.told(1) - t.setting(1))));
        within("pairs", t.told(15), 0, 61);
        within("kept words", t.told(17), 0, 4);
        within("changes", t.told(18), 0, 8);
        within("next cue", cue, NONE, n - 1);
        int word = below(n);
        within("score", t.score(word), 1, 4);
        within("unique, or NONE", Math.max(1, t.unique(word)), 1, Math.min(4, word + 1));
        within("reached, or NONE", Math.max(0, t.reached(word)), 0, 500);
    }

    // "Each passage begins a new row; within a passage, each row has as many words as the width tells, the last
    // one perhaps fewer."
    private void rows() {
        Teleprompter t = again();
        int word = 0;
        for (int row = 0; row < t.told(1); row++) {
            due(name + "first word of row " + row, t.row(row, 0), word);
            within("words of row " + row, t.row(row, 1), 1, t.setting(0));
            word += t.row(row, 1);
            boolean full = t.row(row, 1) == t.setting(0);
            due(name + "row " + row + " is full or the last one of its passage",
                full || word == t.told(0) || t.word(word, 2) == t.word(word - 1, 2) + 1);
        }
        due(name + "words in all rows", word, t.told(0));
    }

    // "it is scrolled within limits so that the estimated word is always shown"
    private void scrolled() {
        Teleprompter t = again();
        for (int i = 0; i < 20; i++) {
            int top = t.told(8);
            int jerks = t.told(13);
            int jerk = t.tick(1);
            int limit = t.setting(7);
            due(name + "the estimated word is shown", t.word(t.told(7), 4), 1);
            within("jerk", jerk, 0, 1);
            due(name + "it is counted", t.told(13), jerks + jerk);
            if (jerk == 0) {
                within("way of the top", t.told(8), top - limit, top + limit);
                within("way to the desired top", Math.abs(t.told(9) - t.told(8)), 0,
                    Math.max(0, Math.abs(t.told(9) - top) - Math.min(limit, Math.abs(t.told(9) - top))));
            }
        }
    }

    // Promise 5: "how many": so many ticks are as many calls of one
    private void ticks() {
        int n = between(1, 40);
        Teleprompter one = again();
        Teleprompter many = again();
        int jerks = 0;
        for (int i = 0; i < n; i++) {
            jerks += many.tick(1);
        }
        due(name + n + " ticks", one.tick(n), jerks);
        for (int what = 0; what < 18; what++) {
            due(name + "told(" + what + ") behind " + n + " ticks", one.told(what), many.told(what));
        }
    }

    // Promise 19, by promise 4: "which candidate would be the best one if a word were heard now"
    private void bestIsFollowed() {
        for (int i = 0; i < 3; i++) {
            int letter = below(4) == 0 ? between('a', 'z') : again().word(below(again().told(0)), 0);
            Teleprompter t = again();
            int best = t.best(letter, 0);
            boolean accepted = t.best(letter, 2) == 1;
            int position = t.told(5);
            int skips = t.told(10) + (accepted && best > position ? 1 : 0);
            int repeats = t.told(11) + (accepted && best < position ? 1 : 0);
            due(name + "the best one's score", t.best(letter, 1), best == NONE ? NONE : t.score(best));
            due(name + "the best one has this letter", best == NONE || t.word(best, 0) == letter);
            due(name + "it is followed, if accepted", t.hear(letter), accepted ? best + 1 : NONE);
            told(name + "behind it", t, 10, skips, repeats);
            due(name + "the word is kept", t.heard(0), letter);
        }
    }

    // Promise 22, by promise 5: "after how many ticks the estimated word would be a word or a greater one"
    private void reachedByTicks() {
        int word = below(again().told(0));
        int reached = again().reached(word);
        Teleprompter t = again();
        int ticks = 0;
        while (ticks < 500 && t.told(7) < word) {
            int more = reached == NONE ? 100 : 1;
            if (ticks + 150 < reached) {
                more = 100;
            }
            t.tick(more);
            ticks += more;
        }
        due(name + "word " + word + " is reached", reached, t.told(7) >= word ? ticks : NONE);
    }

    // Promise 23, by promises 4, 5 and 6: "Reads on to the end without a fault"
    private void rehearsedByHand() {
        int pace = between(1, 10);
        int[] rehearsed = new int[4];
        for (int what = 0; what < 4; what++) {
            rehearsed[what] = again().rehearse(pace, what);
        }
        Teleprompter t = again();
        int[] before = {t.told(13), t.told(10) + t.told(11), t.told(12)};
        int n = t.told(0);
        for (int word = t.told(5); word < n; word++) {
            t.tick(pace);
            t.hear(t.word(word, 0));
            if (t.told(16) == word) {
                t.release();
            }
        }
        due(name + "jerks", rehearsed[0], t.told(13) - before[0]);
        due(name + "skips and repeats", rehearsed[1], t.told(10) + t.told(11) - before[1]);
        due(name + "misses", rehearsed[2], t.told(12) - before[2]);
        due(name + "position", rehearsed[3], t.told(5));
    }

    private void someRun(int number) {
        run.clear();
        answers.clear();
        name = "run " + number + ": ";
        String text = text();
        for (int i = 0; i < text.length() && i < 138; i++) {
            char code = text.charAt(i);
            step(t -> t.write(code));
        }
        step(t -> t.write('z'));
        step(t -> t.load());
        name = "run " + number + " of " + text + ": ";
        for (int i = 0; i < 40; i++) {
            step(randomStep(again()));
            ranges();
            scrolled();
            ticks();
            bestIsFollowed();
            reachedByTicks();
        }
        rows();
        rehearsedByHand();
    }

    public static void main(String[] args) {
        AlwaysTest test = new AlwaysTest();
        for (int number = 0; number < 60; number++) {
            test.someRun(number);
        }
        test.end();
    }
}
