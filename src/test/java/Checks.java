import java.util.List;
import java.util.function.Consumer;
import java.util.function.Supplier;

/** Counts and prints the answers that are not as due. A test may use it or be one. */
class Checks {
    static final int BAD = -1, STATE = -2, FULL = -3, NONE = -9;

    private int right;
    private int wrong;

    void due(String call, double got, double want) {
        if (got == want) {
            right++;
        } else {
            wrong++;
            System.out.println(call + " answered " + got + ", due is " + want);
        }
    }

    void due(String call, boolean holds) {
        due(call, holds ? 1 : 0, 1);
    }

    /** Checks a run of numbers that told() tells, from one of them on. */
    void told(String when, Teleprompter t, int from, int... want) {
        for (int i = 0; i < want.length; i++) {
            due(when + ": told(" + (from + i) + ")", t.told(from + i), want[i]);
        }
    }

    /** Compares two views; of those that differ, it prints the first line that does. */
    void same(String what, List<String> got, List<String> want) {
        if (got.equals(want)) {
            right++;
            return;
        }
        wrong++;
        int line = 0;
        while (line < got.size() && line < want.size() && got.get(line).equals(want.get(line))) {
            line++;
        }
        System.out.println(what + ": " + (line < got.size() ? got.get(line) : "nothing more") + ", due is: "
            + (line < want.size() ? want.get(line) : "nothing more"));
    }

    /** A new object that has read a text. */
    Teleprompter loaded(String text) {
        Teleprompter made = new Teleprompter();
        rewrite(made, text);
        due("load of " + text, made.load() > 0);
        return made;
    }

    static void rewrite(Teleprompter teleprompter, String text) {
        teleprompter.wipe();
        for (int i = 0; i < text.length(); i++) {
            teleprompter.write(text.charAt(i));
        }
    }

    static void hearAll(Teleprompter teleprompter, String words) {
        for (int i = 0; i < words.length(); i++) {
            teleprompter.hear(words.charAt(i));
        }
    }

    /** A run of calls with a further step behind it. */
    static Supplier<Teleprompter> then(Supplier<Teleprompter> run, Consumer<Teleprompter> step) {
        return () -> {
            Teleprompter t = run.get();
            step.accept(t);
            return t;
        };
    }

    void end() {
        System.out.println(right + " answers are as due, " + wrong + " are not");
        if (wrong > 0 || right == 0) {
            System.exit(1);
        }
    }
}
