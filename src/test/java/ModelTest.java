/**
 * Long runs of calls, chosen by a counter of its own, each answered by the model, too. An object is asked more
 * here than the 512 calls that the document speaks of, as this program answers alike however many there are.
 */
public final class ModelTest {
    private static final String[] CALLS = {"load", "set", "hear", "tick", "release", "place", "undo", "write", "wipe",
        "fault", "told", "setting", "word", "row", "heard", "trail", "score", "best", "unique", "reached", "rehearse",
        "keep", "back", "mean"};
    // How often each of them is called, in the same order.
    private static final int[] WEIGHTS = {2, 6, 50, 22, 6, 4, 6, 2, 0, 1, 4, 1, 2, 1, 1, 2, 2, 4, 2, 4, 2, 3, 3, 1};

    private final Checks checks = new Checks();
    private long seed = 20261119;

    private int below(int bound) {
        seed = seed * 6364136223846793005L + 1442695040888963407L;
        return (int) ((seed >>> 33) % bound);
    }

    private int between(int least, int most) {
        return least + below(most - least + 1);
    }

    private String text() {
        StringBuilder made = new StringBuilder();
        int letters = between(1, 26);
        if (below(3) > 0) {
            letters = between(1, 4);
        }
        int length = below(4) == 0 ? between(1, 20) : between(20, 140);
        boolean faulty = below(6) == 0;
        while (made.length() < length) {
            int kind = below(24);
            char last = made.length() == 0 ? '|' : made.charAt(made.length() - 1);
            boolean behindWord = last >= 'a' && last <= 'z';
            if (kind == 0 && (behindWord || faulty)) {
                made.append('/');
            } else if (kind == 1 && (behindWord || last == '/' || faulty)) {
                made.append('|');
            } else if (kind == 2) {
                made.append(' ');
            } else if (kind == 3 && faulty && below(3) == 0) {
                made.append((char) between(32, 126));
            } else {
                made.append((char) ('a' + below(letters)));
            }
        }
        return made.toString();
    }

    private int pick() {
        int total = 0;
        for (int weight : WEIGHTS) {
            total += weight;
        }
        int left = below(total);
        int call = 0;
        while (left >= WEIGHTS[call]) {
            left -= WEIGHTS[call];
            call++;
        }
        return call;
    }

    /** The letter that is expected, or one that stands near it, or any. */
    private int letter(Model model) {
        int position = model.told(5);
        int word = position;
        int chance = below(10);
        if (chance > 6) {
            word = position + between(-8, 12);
        }
        int code = model.word(word, 0);
        return chance == 0 || code < 0 ? between('a' - 1, 'z' + 1) : code;
    }

    private void call(String run, Teleprompter real, Model model) {
        String name = CALLS[pick()];
        int n = model.told(0);
        int word = between(-1, n);
        int what = between(-1, 5);
        int a = word;
        int b = what;
        double got;
        double want;
        switch (name) {
            case "load": got = real.load(); want = model.load(); break;
            case "set":
                a = between(-1, 9);
                b = below(4) == 0 ? between(-1, 101) : a >= 4 && a < 6 || a == 3 ? between(0, 15) : between(0, 8);
                got = real.set(a, b); want = model.set(a, b); break;
            case "hear": a = letter(model); got = real.hear(a); want = model.hear(a); break;
            case "tick":
                a = below(8) == 0 ? between(-1, 101) : between(1, 4);
                got = real.tick(a); want = model.tick(a); break;
            case "release": got = real.release(); want = model.release(); break;
            case "place": got = real.place(a); want = model.place(a); break;
            case "undo": got = real.undo(); want = model.undo(); break;
            case "write": a = between(31, 127); got = real.write(a); want = model.write(a); break;
            case "wipe": got = real.wipe(); want = model.wipe(); break;
            case "fault": got = real.fault(b); want = model.fault(b); break;
            case "told": a = between(-1, 19); got = real.told(a); want = model.told(a); break;
            case "setting": a = between(-1, 9); got = real.setting(a); want = model.setting(a); break;
            case "word": got = real.word(a, b); want = model.word(a, b); break;
            case "row": got = real.row(a, b); want = model.row(a, b); break;
            case "heard": got = real.heard(b); want = model.heard(b); break;
            case "trail": a = between(-1, 8); got = real.trail(a, b); want = model.trail(a, b); break;
            case "score": got = real.score(a); want = model.score(a); break;
            case "best": a = letter(model); got = real.best(a, b); want = model.best(a, b); break;
            case "unique": got = real.unique(a); want = model.unique(a); break;
            case "reached": got = real.reached(a); want = model.reached(a); break;
            case "rehearse":
                a = between(0, 11);
                got = real.rehearse(a, b); want = model.rehearse(a, b); break;
            case "keep": a = between(-1, 2); got = real.keep(a); want = model.keep(a); break;
            case "back": a = between(-1, 2); got = real.back(a); want = model.back(a); break;
            default: got = real.mean(); want = model.mean(); break;
        }
        checks.due(run + name + "(" + a + ", " + b + ")", got, want);
    }

    private void compareAll(String run, Teleprompter real, Model model) {
        for (int what = -1; what <= 19; what++) {
            checks.due(run + "told(" + what + ")", real.told(what), model.told(what));
        }
        for (int s = -1; s <= 9; s++) {
            checks.due(run + "setting(" + s + ")", real.setting(s), model.setting(s));
        }
        for (int k = -1; k <= 5; k++) {
            checks.due(run + "heard(" + k + ")", real.heard(k), model.heard(k));
            checks.due(run + "fault(" + k + ")", real.fault(k), model.fault(k));
        }
        for (int k = -1; k <= model.told(15); k++) {
            for (int what = -1; what <= 2; what++) {
                checks.due(run + "trail(" + k + ", " + what + ")", real.trail(k, what), model.trail(k, what));
            }
        }
        checks.due(run + "mean()", real.mean(), model.mean());
    }

    private void compareAhead(String run, Teleprompter real, Model model) {
        for (int pace = 1; pace <= 10; pace += 3) {
            for (int what = 0; what < 4; what++) {
                checks.due(run + "rehearse(" + pace + ", " + what + ")", real.rehearse(pace, what),
                    model.rehearse(pace, what));
            }
        }
        for (int word = 0; word < model.told(0); word += 7) {
            checks.due(run + "reached(" + word + ")", real.reached(word), model.reached(word));
        }
    }

    /** Small rows and a low limit, so that much is scrolled. */
    private void narrow(String run, Teleprompter real, Model model) {
        int[][] settings = {{0, between(1, 3)}, {1, between(1, 2)}, {7, between(1, 100)}, {8, below(3)}, {5, between(1, 4)}};
        for (int[] one : settings) {
            checks.due(run + "set(" + one[0] + ", " + one[1] + ")", real.set(one[0], one[1]), model.set(one[0], one[1]));
        }
    }

    private void compareScript(String run, Teleprompter real, Model model) {
        for (int word = -1; word <= model.told(0); word++) {
            for (int what = -1; what <= 5; what++) {
                checks.due(run + "word(" + word + ", " + what + ")", real.word(word, what), model.word(word, what));
            }
            for (int what = -1; what <= 2; what++) {
                checks.due(run + "row(" + word + ", " + what + ")", real.row(word, what), model.row(word, what));
            }
            checks.due(run + "score(" + word + ")", real.score(word), model.score(word));
            checks.due(run + "unique(" + word + ")", real.unique(word), model.unique(word));
        }
        for (int letter = 'a' - 1; letter <= 'z' + 1; letter++) {
            for (int what = -1; what <= 3; what++) {
                checks.due(run + "best(" + letter + ", " + what + ")", real.best(letter, what), model.best(letter, what));
            }
        }
    }

    private void run(int number) {
        Teleprompter real = new Teleprompter();
        Model model = new Model();
        String name = "run " + number + ": ";
        int calls = 0;
        for (int part = 0; part < 3; part++) {
            String text = text();
            checks.due(name + "wipe()", real.wipe(), model.wipe());
            for (int i = 0; i < text.length(); i++) {
                checks.due(name + "write " + text, real.write(text.charAt(i)), model.write(text.charAt(i)));
            }
            checks.due(name + "load " + text, real.load(), model.load());
            compareScript(name + "as loaded, ", real, model);
            if (below(2) == 0) {
                narrow(name, real, model);
            }
            for (int i = 0; i < 120; i++) {
                calls++;
                if (i % 30 == 29) {
                    compareAhead(name + "ahead of call " + calls + ", ", real, model);
                }
                call(name + "call " + calls + ": ", real, model);
                compareAll(name + "behind call " + calls + ", ", real, model);
            }
            compareScript(name + "at the end of part " + part + ", ", real, model);
        }
    }

    public static void main(String[] args) {
        ModelTest test = new ModelTest();
        for (int number = 0; number < 60; number++) {
            test.run(number);
        }
        test.checks.end();
    }
}
