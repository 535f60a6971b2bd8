import java.util.ArrayList;
import java.util.LinkedHashMap;
import java.util.List;
import java.util.Map;
import java.util.function.Supplier;
import java.util.function.UnaryOperator;

/**
 * All that can be seen of an object behind a run of calls. Each group of questions is asked of an object
 * of its own, made by the same run: so no question can spoil the next one, and none comes behind the
 * 512th call.
 */
final class View {
    private static final int UNDO = 18;

    private final List<String> seen = new ArrayList<>();

    /** A number that is asked for with one argument. */
    private interface Question {
        int ask(Teleprompter teleprompter, int argument);
    }

    /** The numbers of the present state by their names, but for the rows and what is worked out ahead. */
    static Map<String, Integer> facts(Teleprompter t) {
        Map<String, Integer> facts = new LinkedHashMap<>();
        for (int what = 0; what <= UNDO; what++) {
            facts.put("told(" + what + ")", t.told(what));
        }
        for (int setting = 0; setting < 9; setting++) {
            facts.put("setting(" + setting + ")", t.setting(setting));
        }
        for (int k = 0; k < 4; k++) {
            facts.put("heard(" + k + ")", t.heard(k));
        }
        for (int k = 0; k < t.told(15); k++) {
            facts.put("trail(" + k + ", 0)", t.trail(k, 0));
            facts.put("trail(" + k + ", 1)", t.trail(k, 1));
        }
        for (int word = 0; word < t.told(0); word++) {
            facts.put("letter(" + word + ")", t.word(word, 0));
            facts.put("passage(" + word + ")", t.word(word, 2));
            facts.put("cue(" + word + ")", t.word(word, 3));
        }
        return facts;
    }

    /** The present state alone. */
    static List<String> state(Supplier<Teleprompter> run) {
        View view = new View();
        view.addState("now", run);
        return view.seen;
    }

    /** The present state, those that can be undone, the images and the text; all but the latest fault. */
    static List<String> allButFault(Supplier<Teleprompter> run) {
        View view = new View();
        view.addState("now", run);
        int undoable = run.get().told(UNDO);
        view.add("changes that can be undone", undoable);
        for (int depth = 1; depth <= undoable; depth++) {
            view.addState("undone " + depth + " times", behind(run, depth, View::undone));
        }
        for (int image = 0; image < 2; image++) {
            int i = image;
            view.add("back to " + i, run.get().back(i));
            view.addState("image " + i, behind(run, 1, t -> {
                t.back(i);
                return t;
            }));
        }
        view.add("length of the text", run.get().wipe());
        view.addText(run);
        return view.seen;
    }

    /** Everything. */
    static List<String> all(Supplier<Teleprompter> run) {
        List<String> seen = allButFault(run);
        for (int what = 0; what < 2; what++) {
            seen.add("fault(" + what + ") is " + run.get().fault(what));
        }
        return seen;
    }

    private static Teleprompter undone(Teleprompter teleprompter) {
        teleprompter.undo();
        return teleprompter;
    }

    private static Supplier<Teleprompter> behind(Supplier<Teleprompter> run, int times, UnaryOperator<Teleprompter> step) {
        return () -> {
            Teleprompter teleprompter = run.get();
            for (int i = 0; i < times; i++) {
                step.apply(teleprompter);
            }
            return teleprompter;
        };
    }

    private void add(String name, double answer) {
        seen.add(name + " is " + answer);
    }

    /** Asks with each argument in the range, and then with those directly beside it. */
    private void addEach(String name, Supplier<Teleprompter> run, int least, int most, Question question) {
        Teleprompter teleprompter = run.get();
        for (int i = least; i <= most; i++) {
            add(name + " of " + i, question.ask(teleprompter, i));
        }
        add(name + " of " + (least - 1), question.ask(teleprompter, least - 1));
        add(name + " of " + (most + 1), question.ask(teleprompter, most + 1));
    }

    private void addText(Supplier<Teleprompter> run) {
        Teleprompter teleprompter = run.get();
        int words = teleprompter.load();
        add("load of the text", words);
        if (words < 0) {
            add("its fault", teleprompter.fault(0));
            add("the place", teleprompter.fault(1));
        } else {
            addState("the text", behind(run, 1, t -> {
                t.load();
                return t;
            }));
        }
    }

    private void addState(String when, Supplier<Teleprompter> run) {
        int words = run.get().told(0);
        int rows = run.get().told(1);
        // How many changes can be undone is no part of the state: behind the others, it is asked as a wrong number.
        addEach(when + ": told", run, 0, UNDO - 1, (t, what) -> t.told(what == UNDO ? UNDO + 1 : what));
        addEach(when + ": setting", run, 0, 8, Teleprompter::setting);
        addEach(when + ": heard", run, 0, 4, Teleprompter::heard);
        add(when + ": mean", run.get().mean());
        for (int number = -1; number <= 5; number++) {
            int what = number;
            addEach(when + ": word " + what, run, 0, words - 1, (t, word) -> t.word(word, what));
            addEach(when + ": row " + what, run, 0, rows - 1, (t, row) -> t.row(row, what));
            addEach(when + ": trail " + what, run, 0, run.get().told(15), (t, k) -> t.trail(k, what));
            addEach(when + ": best " + what, run, 'a', 'z', (t, letter) -> t.best(letter, what));
            addEach(when + ": rehearse " + what, run, 1, 10, (t, pace) -> t.rehearse(pace, what));
        }
        addEach(when + ": score", run, 0, words - 1, Teleprompter::score);
        addEach(when + ": unique", run, 0, words - 1, Teleprompter::unique);
        addEach(when + ": reached", run, 0, words - 1, Teleprompter::reached);
    }
}
