import java.util.function.Consumer;
import java.util.function.Supplier;

/** The edges of CHANGES and of promises 1, 8, 24 and 25: a method for each sentence that names one. */
public final class HistoryEdgesTest extends Checks {
    private static final int UNDO = 18;

    private static Supplier<Teleprompter> started() {
        return () -> {
            Teleprompter t = new Teleprompter();
            rewrite(t, "ab/cd|efg/hij");
            t.load();
            t.set(0, 2);
            t.set(5, 1);
            t.hear('a');
            t.tick(2);
            t.hear('b');
            t.keep(1);
            return t;
        };
    }

    // Promise 1: "nothing can be undone", "the images keep nothing", "there was no fault", "the text is empty"
    private void newObject() {
        Teleprompter t = new Teleprompter();
        told("new", t, UNDO, 0);
        due("undo", t.undo(), STATE);
        due("image 0", t.back(0), STATE);
        due("image 1", t.back(1), STATE);
        due("fault", t.fault(0), NONE);
        due("text", t.wipe(), 0);
        due("the word a", t.word(0, 0), 'a');
        due("no second word", t.word(1, 0), BAD);
        told("new", t, 0, 1, 1, 1, 0, 0);
    }

    // "A history of at most 8 states is kept"
    private void upTo8States() {
        for (int changes = 0; changes <= 10; changes++) {
            Teleprompter t = new Teleprompter();
            for (int i = 0; i < changes; i++) {
                t.tick(1);
            }
            int kept = Math.min(changes, 8);
            told(changes + " changes", t, UNDO, kept);
            for (int left = kept - 1; left >= 0; left--) {
                due("undo of " + changes, t.undo(), left);
                told("time behind undo", t, 4, changes - kept + left);
                told("changes behind undo", t, UNDO, left);
            }
            due("no more of " + changes, t.undo(), STATE);
            told("time at the end", t, 4, changes - kept);
        }
    }

    // "if there are more than 8, the oldest one is dropped": over and over, and with undo between
    private void oldestIsDropped() {
        Teleprompter t = new Teleprompter();
        for (int i = 1; i <= 30; i++) {
            t.tick(i);
        }
        told("1 + .. + 30", t, 4, 465);
        due("undo", t.undo(), 7);
        due("undo", t.undo(), 6);
        due("undo", t.undo(), 5);
        told("1 + .. + 27", t, 4, 378);
        for (int i = 1; i <= 4; i++) {
            t.tick(100);
            told("changes", t, UNDO, Math.min(5 + i, 8));
        }
        int[] times = {678, 578, 478, 378, 351, 325, 300, 276};
        for (int i = 0; i < 8; i++) {
            due("undo", t.undo(), 7 - i);
            told("time", t, 4, times[i]);
        }
        due("undo of none", t.undo(), STATE);
        told("time", t, 4, 276);
        t.tick(1);
        told("a change again", t, UNDO, 1);
        due("undo of it", t.undo(), 0);
    }

    // "a change that returns no error code records everything before it": each kind of change, undone
    private void eachChangeIsUndone() {
        undone("load", t -> t.load());
        undone("set", t -> t.set(0, 5));
        undone("hear", t -> t.hear('d'));
        undone("a skip", t -> t.hear('h'));
        undone("a repeat", t -> t.hear('c'));
        undone("a miss", t -> t.hear('z'));
        undone("tick", t -> t.tick(100));
        undone("release", t -> t.release());
        undone("place", t -> t.place(9));
        undone("back", t -> t.back(1));
    }

    private void undone(String name, Consumer<Teleprompter> change) {
        Supplier<Teleprompter> before = then(started(), t -> t.hear('c'));
        Supplier<Teleprompter> behind = then(before, change);
        due(name + " is a change", behind.get().told(UNDO), before.get().told(UNDO) + 1);
        same("undo of " + name, View.all(then(behind, t -> t.undo())), View.all(before));
    }

    // "(also if they change nothing)"
    private void changesOfNothing() {
        Teleprompter t = new Teleprompter();
        due("set to what it is", t.set(0, 5), 5);
        told("is a change", t, UNDO, 1);
        due("place where it is", t.place(0), 0);
        told("is a change", t, UNDO, 2);
        t.keep(0);
        due("back to what it is", t.back(0), 0);
        told("is a change", t, UNDO, 3);
        due("a word that is missed", t.hear('b'), NONE);
        told("is a change, though NONE is returned", t, UNDO, 4);
        due("a hundred ticks", t.tick(100), 0);
        told("are one change", t, UNDO, 5);
    }

    // The methods that are not called changes are none.
    private void othersAreNoChanges() {
        Supplier<Teleprompter> run = started();
        int changes = run.get().told(UNDO);
        Teleprompter t = run.get();
        t.write('z');
        told("write", t, UNDO, changes);
        t.wipe();
        told("wipe", t, UNDO, changes);
        t.keep(0);
        told("keep", t, UNDO, changes);
        t.reached(3);
        t.rehearse(1, 0);
        t.best('a', 0);
        told("what is told", t, UNDO, changes);
        t.undo();
        told("undo takes one", t, UNDO, changes - 1);
    }

    // "except the text, the latest fault and the images"
    private void undoLeavesTheRest() {
        Teleprompter t = started().get();
        rewrite(t, "xy!");
        t.load();
        t.tick(1);
        t.keep(0);
        rewrite(t, "xyz|");
        t.load();
        for (int left = t.told(UNDO); left > 0; left--) {
            t.undo();
        }
        told("all is undone", t, 0, 1, 1, 1, 0, 0, 0);
        due("kind of the latest fault", t.fault(0), 5);
        due("place of the latest fault", t.fault(1), 4);
        due("image 0", t.back(0), 2);
        told("its time", t, 4, 3);
        due("image 1", t.back(1), 2);
        told("its time", t, 4, 2);
        due("length of the text", t.wipe(), 4);
    }

    // Promises 24 and 25: "the image, 0 or 1"; "BAD if there is no such image; STATE if nothing was kept in it"
    private void images0And1() {
        Teleprompter t = new Teleprompter();
        for (int i : new int[] {-1, 2, Integer.MIN_VALUE, Integer.MAX_VALUE}) {
            due("keep(" + i + ")", t.keep(i), BAD);
            due("back(" + i + ")", t.back(i), BAD);
        }
        due("back(0) with none", t.back(0), STATE);
        due("back(1) with none", t.back(1), STATE);
        due("keep(1)", t.keep(1), 0);
        due("back(0) with image 1", t.back(0), STATE);
        due("back(1)", t.back(1), 0);
        due("keep(0)", t.keep(0), 0);
        due("back(0)", t.back(0), 0);
        due("back(2) with both", t.back(2), BAD);
        due("back(-1) with both", t.back(-1), BAD);
        told("two changes", t, UNDO, 2);
    }

    // Promise 24: "Returns the position", promise 25: "the position then": 0 and n, too
    private void imagesReturnThePosition() {
        Teleprompter t = loaded("abc");
        due("keep at 0", t.keep(0), 0);
        hearAll(t, "abc");
        due("keep at n", t.keep(1), 3);
        due("back to 0", t.back(0), 0);
        due("back to n", t.back(1), 3);
        told("at n", t, 5, 3);
    }

    // Promise 24: "replacing what it kept before"; promise 25: "the image stays"
    private void imagesStayUntilReplaced() {
        Supplier<Teleprompter> run = started();
        Supplier<Teleprompter> changed = then(run, t -> {
            t.keep(0);
            t.hear('c');
            t.release();
            t.set(3, 0);
            t.tick(40);
            rewrite(t, "z");
            t.load();
        });
        same("the image is what was kept", View.state(then(changed, t -> t.back(0))), View.state(run));
        same("once more", View.state(then(changed, t -> {
            t.back(0);
            t.place(5);
            t.tick(3);
            t.back(0);
        })), View.state(run));
        same("undo of back", View.state(then(changed, t -> {
            t.back(0);
            t.undo();
        })), View.state(changed));
        Supplier<Teleprompter> replaced = then(changed, t -> t.keep(0));
        same("replaced", View.state(then(replaced, t -> {
            t.back(1);
            t.back(0);
        })), View.state(changed));
        same("the other one is not", View.state(then(replaced, t -> t.back(1))), View.state(run));
    }

    // Promise 25: "it is recorded behind those that are recorded already": also if there are 8
    private void backBehindTheOthers() {
        Teleprompter t = new Teleprompter();
        t.keep(0);
        for (int i = 0; i < 8; i++) {
            t.tick(1);
        }
        told("full", t, UNDO, 8);
        due("back", t.back(0), 0);
        told("full still", t, UNDO, 8);
        told("time of the image", t, 4, 0);
        for (int i = 0; i < 8; i++) {
            due("undo", t.undo(), 7 - i);
            told("time", t, 4, 8 - i);
        }
        due("the time 0 was dropped", t.undo(), STATE);
    }

    // Promise 24: "except the text, the latest fault, the images"
    private void textFaultAndImagesAreNotInAnImage() {
        Teleprompter t = loaded("ab");
        t.keep(0);
        rewrite(t, "xyz|");
        t.load();
        t.hear('a');
        t.keep(1);
        due("back(0)", t.back(0), 0);
        due("the latest kind of fault", t.fault(0), 5);
        due("its place", t.fault(1), 4);
        due("back(1), that was not kept at that time", t.back(1), 1);
        due("the latest text", t.wipe(), 4);
    }

    // "and what can be undone"
    private void historyIsNotInAnImage() {
        Teleprompter t = new Teleprompter();
        t.tick(1);
        t.tick(1);
        t.keep(0);
        t.undo();
        t.undo();
        told("nothing to undo", t, UNDO, 0);
        t.back(0);
        told("but back itself", t, UNDO, 1);
        due("undo", t.undo(), 0);
        told("time", t, 4, 0);
    }

    // "An object is used for at most 512 calls": the last one of them holds.
    private void call512() {
        Teleprompter t = new Teleprompter();
        for (int call = 1; call < 512; call++) {
            t.tick(100);
        }
        told("call 512", t, 4, 51100);
    }

    public static void main(String[] args) {
        HistoryEdgesTest test = new HistoryEdgesTest();
        test.newObject();
        test.upTo8States();
        test.oldestIsDropped();
        test.eachChangeIsUndone();
        test.changesOfNothing();
        test.othersAreNoChanges();
        test.undoLeavesTheRest();
        test.images0And1();
        test.imagesReturnThePosition();
        test.imagesStayUntilReplaced();
        test.backBehindTheOthers();
        test.textFaultAndImagesAreNotInAnImage();
        test.historyIsNotInAnImage();
        test.call512();
        test.end();
    }
}
