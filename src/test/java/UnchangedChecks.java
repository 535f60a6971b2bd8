import java.util.ArrayList;
import java.util.List;
import java.util.function.Supplier;
import java.util.function.ToIntFunction;

/** Checks of calls that have an answer and leave everything that can be seen as it was. */
class UnchangedChecks extends Checks {
    private final List<String> names = new ArrayList<>();
    private final List<ToIntFunction<Teleprompter>> calls = new ArrayList<>();
    private final List<Integer> answers = new ArrayList<>();

    void add(String name, int answer, ToIntFunction<Teleprompter> call) {
        names.add(name);
        calls.add(call);
        answers.add(answer);
    }

    /** Does each call that was added on an object of its own, and empties their list. */
    void changeNothing(String when, Supplier<Teleprompter> run) {
        List<String> before = View.all(run);
        for (int i = 0; i < names.size(); i++) {
            ToIntFunction<Teleprompter> call = calls.get(i);
            String name = when + ": " + names.get(i);
            due(name, call.applyAsInt(run.get()), answers.get(i));
            same(name + " has changed something", View.all(() -> {
                Teleprompter t = run.get();
                call.applyAsInt(t);
                return t;
            }), before);
        }
        names.clear();
        calls.clear();
        answers.clear();
    }

    /**
     * A reader midway in a script of 40 words: every setting has neither its first nor its least value, every
     * counter has counted, there are cues of all kinds, the text is no longer the script's, both images keep
     * other states, and 4 changes can be undone.
     */
    static Teleprompter midwayWithoutFault() {
        return midwayOf(new Teleprompter());
    }

    /** The same; and a fault was found before it all. */
    static Teleprompter midway() {
        Teleprompter t = new Teleprompter();
        rewrite(t, "ab /");
        t.load();
        return midwayOf(t);
    }

    private static Teleprompter midwayOf(Teleprompter t) {
        rewrite(t, "abcd/efgh/ij|klmnopqrstuvwxyz|abcdefghij/kl/mn");
        t.load();
        int[] values = {2, 4, 2, 9, 16, 1, 30, 30, 3};
        for (int s = 0; s < values.length; s++) {
            t.set(s, values[s]);
        }
        hearAll(t, "afb");
        t.release();
        hearAll(t, "zi");
        t.tick(3);
        t.hear('j');
        t.tick(2);
        t.hear('k');
        t.set(5, 3);
        t.keep(0);
        for (int i = 0; i < 8; i++) {
            t.undo();
        }
        t.back(0);
        t.tick(1);
        t.keep(1);
        t.hear('l');
        t.keep(0);
        t.tick(3);
        rewrite(t, "pq/r|st u");
        return t;
    }
}
