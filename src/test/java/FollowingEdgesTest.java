/** The edges of FOLLOWING and CUES and of promises 4, 6, 7 and 16 to 19: a method for each sentence that names one. */
public final class FollowingEdgesTest extends Checks {
    private static final String LETTERS = "abcdefghijklmnopqrstuvwxyz";

    // "The position p is ... 0 at first, and n at the end"
    private void positionFrom0ToN() {
        Teleprompter t = loaded("abc");
        told("at first", t, 5, 0);
        due("a", t.hear('a'), 1);
        due("b", t.hear('b'), 2);
        due("c, the last one", t.hear('c'), 3);
        told("at the end", t, 5, 3);
        due("nothing is expected then", t.hear('a'), NONE);
        due("nothing is expected then", t.hear('z'), NONE);
        told("at the end still", t, 5, 3);
        Teleprompter one = new Teleprompter();
        due("the only word", one.hear('a'), 1);
        due("it was the last one", one.hear('a'), NONE);
    }

    // "and n at the end": nothing stops there; time passes, words are missed or repeated, cues can be released
    private void atTheEnd() {
        Teleprompter t = loaded("abc/");
        t.set(0, 1);
        t.set(1, 1);
        t.hear('a');
        t.tick(2);
        hearAll(t, "bc");
        told("at the end", t, 4, 2, 3, 100, 2, 100, 200);
        due("a tick", t.tick(1), 1);
        told("the last word is shown", t, 4, 3, 3, 100, 2, 200, 200);
        due("a hundred ticks", t.tick(100), 0);
        told("the time goes on", t, 4, 103, 3, 100, 2, 200, 200);
        due("the cue of the last word", t.release(), 2);
        due("a miss", t.hear('z'), NONE);
        told("counted", t, 12, 1);
        due("keep", t.keep(0), 3);
        t.set(5, 1);
        due("a repeat", t.hear('c'), 3);
        told("counted", t, 11, 1);
        due("place", t.place(2), 3);
        due("back", t.back(0), 3);
    }

    // Promise 4: "'a' to 'z'"; promise 19 the same
    private void lettersFromAToZ() {
        Teleprompter t = loaded("az");
        for (int word : new int[] {'a' - 1, 'z' + 1, 'A', 0, -1, 'a' + 256, Integer.MIN_VALUE, Integer.MAX_VALUE}) {
            due("hear " + word, t.hear(word), BAD);
            due("best " + word, t.best(word, 0), BAD);
        }
        told("nothing was kept", t, 17, 0, 1);
        due("best a", t.best('a', 0), 0);
        due("best z", t.best('z', 0), 1);
        due("hear a", t.hear('a'), 1);
        due("hear z", t.hear('z'), 2);
    }

    // "The latest 4 heard words are kept, from the latest one backward (none at first)"; promise 16
    private void keeps4Words() {
        Teleprompter t = loaded("abcdefg");
        String heard = "azbcqde";
        due("none at first", t.heard(0), NONE);
        told("none at first", t, 17, 0);
        for (int n = 1; n <= heard.length(); n++) {
            t.hear(heard.charAt(n - 1));
            int kept = Math.min(n, 4);
            told("behind word " + n, t, 17, kept);
            for (int k = 0; k < kept; k++) {
                due("heard(" + k + ") of " + n, t.heard(k), heard.charAt(n - 1 - k));
            }
            due("none behind them", t.heard(kept), NONE);
        }
        due("4", t.heard(4), NONE);
        due("the greatest int", t.heard(Integer.MAX_VALUE), NONE);
        due("-1", t.heard(-1), BAD);
        due("the least int", t.heard(Integer.MIN_VALUE), BAD);
        due("-1 with none kept", new Teleprompter().heard(-1), BAD);
    }

    private Teleprompter window(String text, int back, int ahead, int position) {
        Teleprompter t = loaded(text);
        t.set(5, 1);
        t.set(3, back);
        t.set(4, ahead);
        t.place(position);
        return t;
    }

    /** Checks the first and the last candidate of a window, and that the words beside them are none. */
    private void windowIs(Teleprompter t, String text, int first, int last) {
        int[] words = {first - 1, first, last, last + 1};
        for (int word : words) {
            if (word >= 0 && word < text.length()) {
                int want = word < first || word > last ? NONE : word;
                due("candidate " + word + " of " + first + " to " + last, t.best(text.charAt(word), 0), want);
            }
        }
    }

    // "the candidates are the words j from p - back to p + ahead"
    private void windowFromBackToAhead() {
        windowIs(window(LETTERS, 3, 2, 5), LETTERS, 2, 7);
        windowIs(window(LETTERS, 8, 15, 9), LETTERS, 1, 24);
        windowIs(window(LETTERS, 0, 1, 5), LETTERS, 5, 6);
        windowIs(window(LETTERS, 1, 1, 5), LETTERS, 4, 6);
        windowIs(window(LETTERS, 1, 1, 0), LETTERS, 0, 1);
        windowIs(window(LETTERS, 1, 2, 0), LETTERS, 0, 2);
        windowIs(window(LETTERS, 1, 2, 1), LETTERS, 0, 3);
        String wide = "xy" + "a".repeat(29) + "b" + "c".repeat(59) + "de";
        windowIs(window(wide, 30, 60, 31), wide, 1, 91);
        Teleprompter t = window(wide, 30, 60, 30);
        due("30 back of 30", t.best('x', 0), 0);
        due("61 ahead of 30", t.best('d', 0), NONE);
        t = window(wide, 30, 60, 32);
        due("31 back of 32", t.best('y', 0), NONE);
        due("60 ahead of 32", t.best('e', 0), 92);
        t = window(wide, 30, 60, 31);
        due("a word before the window is missed", t.hear('x'), NONE);
        due("a word behind it, too", t.hear('e'), NONE);
        due("its first word is not", t.hear('y'), 2);
        t = window(wide, 30, 60, 31);
        due("nor its last one", t.hear('d'), 92);
    }

    // "as far as they exist"
    private void windowWithinTheScript() {
        String text = "abcdefgh";
        windowIs(window(text, 30, 60, 0), text, 0, 7);
        windowIs(window(text, 30, 60, 7), text, 0, 7);
        windowIs(window(text, 1, 60, 0), text, 0, 7);
        windowIs(window(text, 30, 1, 7), text, 0, 7);
        Teleprompter t = window(text, 2, 60, 7);
        t.hear('h');
        windowIs(t, text, 6, 7);
        t.set(3, 1);
        windowIs(t, text, 7, 7);
        t.set(3, 0);
        due("no candidate at the end without back", t.best('h', 0), NONE);
        due("so it is a miss", t.hear('h'), NONE);
        told("the position is n", t, 5, 8);
    }

    private int scoreBehind(String heard, int word) {
        Teleprompter t = loaded("abcdefg");
        t.place(6);
        hearAll(t, heard);
        return t.score(word);
    }

    // "1 plus the number of the kept heard words ... and 3 at most ... up to the first one that is not"
    private void scoresFrom1To4() {
        due("none kept", scoreBehind("", 4), 1);
        due("one that is", scoreBehind("d", 4), 2);
        due("one that is not", scoreBehind("z", 4), 1);
        due("two", scoreBehind("cd", 4), 3);
        due("three", scoreBehind("bcd", 4), 4);
        due("four", scoreBehind("abcd", 4), 4);
        due("the fourth one is not", scoreBehind("zbcd", 4), 4);
        due("the third one is not", scoreBehind("zcd", 4), 3);
        due("the second one is not, the third one is", scoreBehind("bzd", 4), 2);
        due("the first one is not, the others are", scoreBehind("bcz", 4), 1);
        due("the first word has none before it", scoreBehind("abcd", 0), 1);
        due("the second word has one", scoreBehind("aaa", 1), 2);
        due("the third word has two", scoreBehind("zab", 2), 3);
        due("the third word has two", scoreBehind("bab", 2), 3);
        due("the fourth word has three", scoreBehind("zabc", 3), 4);
        due("the last word", scoreBehind("def", 6), 4);
    }

    // The same over the ends of passages and behind cues, of which the document says nothing
    private void passagesAndCuesDoNotCount() {
        Teleprompter t = loaded("ab/|c|d/efg");
        hearAll(t, "abc");
        due("d behind c, b and a", t.score(3), 4);
        hearAll(t, "d");
        due("e behind d, c and b", t.score(4), 4);
        t.set(3, 4);
        due("a is 4 back, two passages before", t.best('a', 0), 0);
        t.place(0);
        due("g is 6 ahead, two passages behind", t.best('g', 0), 6);
    }

    // Promise 18: "wherever it is"
    private void scoreOutOfTheWindow() {
        Teleprompter t = window("abcd" + "x".repeat(40) + "abcde", 0, 1, 20);
        hearAll(t, "abc");
        due("before the window", t.score(3), 4);
        due("behind it", t.score(47), 4);
        due("neither is a candidate", t.best('d', 0), NONE);
    }

    // "the one with the greatest score; of several the one nearest to p ...; of two the lesser one"
    private void bestOfSeveral() {
        String text = "amnbopa";
        due("3 back, 3 ahead: the lesser one", window(text, 30, 60, 3).best('a', 0), 0);
        due("4 back, 2 ahead", window(text, 30, 60, 4).best('a', 0), 6);
        due("2 back, 4 ahead", window(text, 30, 60, 2).best('a', 0), 0);
        due("1 back, or p itself", window("aab", 30, 60, 1).best('a', 0), 1);
        due("p itself, or 1 ahead", window("aab", 30, 60, 0).best('a', 0), 0);
        due("1 or 2 back", window("aab", 30, 60, 2).best('a', 0), 1);
        due("the lesser one ahead, 1 or 2", window("baa", 30, 60, 0).best('a', 0), 1);
        due("1 back, 1 ahead", window("aba", 30, 60, 1).best('a', 0), 0);
        due("a score of 2 is 2 back, 1 is p itself, 2 is 3 ahead", missed("cbmbncb", 3, 'c').best('b', 0), 1);
        due("a score of 2 is 3 back, 1 is 1 back, 2 is 2 ahead", missed("cbmbncb", 4, 'c').best('b', 0), 6);
        due("a score of 2 is 3 back and 3 ahead, 1 is 1 back", missed("cbmbnocb", 4, 'c').best('b', 0), 1);
    }

    /** A reader at a position who was heard with a word that was missed. */
    private Teleprompter missed(String text, int position, int word) {
        Teleprompter t = loaded(text);
        t.set(5, 4);
        t.place(position);
        due("missed", t.hear(word), NONE);
        return t;
    }

    // "It is accepted if it is p, or if its score is at least the need."
    private void acceptedByTheNeed() {
        String text = "mnopqrst";
        for (int score = 1; score <= 4; score++) {
            int letter = text.charAt(score);
            for (int need = 1; need <= 4; need++) {
                Teleprompter t = loaded(text);
                t.set(5, 4);
                hearAll(t, text.substring(1, score));
                told("missed so far", t, 12, score - 1);
                t.set(5, need);
                boolean enough = score >= need;
                String when = "score " + score + ", need " + need;
                due(when, t.best(letter, 1), score);
                due(when + ": accepted", t.best(letter, 2), enough ? 1 : 0);
                due(when + ": hear", t.hear(letter), enough ? score + 1 : NONE);
                told(when, t, 10, enough ? 1 : 0, 0, enough ? score - 1 : score);
            }
        }
        Teleprompter t = loaded(text);
        t.set(5, 4);
        due("p itself has a score of 1", t.best('m', 1), 1);
        due("and is accepted", t.best('m', 2), 1);
        due("and followed", t.hear('m'), 1);
    }

    // The same of the best candidate alone, also if p is the heard letter.
    private void betterThanPButBelowTheNeed() {
        Teleprompter t = missed("abmnopcb", 1, 'c');
        due("b behind c", t.best('b', 0), 7);
        due("its score", t.best('b', 1), 2);
        due("is below 4", t.best('b', 2), 0);
        due("so it is a miss", t.hear('b'), NONE);
        t = missed("abmnopcb", 1, 'c');
        t.set(5, 3);
        due("is below 3", t.best('b', 2), 0);
        t.set(5, 2);
        due("is 2", t.best('b', 2), 1);
        due("so it is a skip", t.hear('b'), 8);
    }

    // Promise 19: "NONE if there is no candidate; BAD if an argument is out of range"
    private void bestOfNone() {
        Teleprompter t = loaded("ab");
        for (int what = 0; what < 3; what++) {
            due("best of c, " + what, t.best('c', what), NONE);
        }
        for (int what : new int[] {-1, 3, Integer.MIN_VALUE, Integer.MAX_VALUE}) {
            due("best of a, " + what, t.best('a', what), BAD);
            due("best of c, " + what, t.best('c', what), BAD);
        }
    }

    // "if it is greater than p, this is a skip, if it is less, a repeat; by both, the trail becomes empty"
    private void skipsAndRepeats() {
        // The letter, and the position, skips, repeats and pairs behind it.
        int[][] rows = {{'c', 3, 0, 0, 2}, {'d', 4, 1, 0, 1}, {'b', 2, 0, 1, 1}, {'h', 8, 1, 0, 1}, {'a', 1, 0, 1, 1}};
        for (int[] row : rows) {
            Teleprompter t = loaded("abcdefgh");
            t.set(5, 1);
            t.place(1);
            t.hear('b');
            t.tick(2);
            String when = "word " + (char) row[0] + " at 2";
            due(when, t.hear(row[0]), row[1]);
            told(when, t, 10, row[2], row[3], 0);
            told(when, t, 15, row[4]);
            due(when + ": time of the latest pair", t.trail(row[4] - 1, 0), 2);
            due(when + ": its position", t.trail(row[4] - 1, 1), row[1]);
            due(when + ": speed", t.told(6), row[4] == 2 ? 50 : 0);
        }
    }

    // "(in place of one with the same time)"
    private void onePairATime() {
        Teleprompter t = loaded("abcdefgh");
        t.hear('a');
        t.hear('b');
        told("the only pair", t, 15, 1);
        due("its position", t.trail(0, 1), 2);
        told("no speed by one pair", t, 6, 0);
        t.tick(1);
        t.hear('c');
        told("speed by two", t, 6, 100);
        t.hear('d');
        told("the second one", t, 15, 2);
        due("its position", t.trail(1, 1), 4);
        told("speed by it", t, 6, 200);
    }

    // "The trail keeps the pairs whose time is at least the present time minus the memory"
    private void pairsAsOldAsTheMemory() {
        for (int memory : new int[] {1, 2, 20, 59, 60}) {
            for (int age = Math.max(1, memory - 1); age <= memory + 1; age++) {
                Teleprompter t = loaded("abc");
                t.set(6, memory);
                t.tick(5);
                t.hear('a');
                t.tick(age);
                t.hear('b');
                String when = "memory " + memory + ", age " + age;
                told(when, t, 15, age <= memory ? 2 : 1);
                due(when + ": oldest time", t.trail(0, 0), age <= memory ? 5 : 5 + age);
                due(when + ": speed", t.told(6), age <= memory ? 100 / age : 0);
            }
        }
    }

    // "older ones are removed after each heard word that is accepted", and by nothing else
    private void oldPairsStayUntilThen() {
        Teleprompter t = loaded("abcdef");
        t.hear('a');
        t.tick(2);
        t.hear('b');
        t.tick(100);
        told("behind ticks", t, 15, 2);
        t.hear('z');
        told("behind a miss", t, 15, 2);
        t.set(6, 1);
        told("behind set", t, 15, 2);
        t.release();
        told("the speed too", t, 6, 50);
        t.hear('c');
        told("behind an accepted word", t, 15, 1);
        due("its time", t.trail(0, 0), 102);
        due("its position", t.trail(0, 1), 3);
        told("with one pair the speed stays", t, 6, 50);
    }

    // The same with as many pairs as there can be: a memory of 60 and a word at each time.
    private void mostPairs() {
        Teleprompter t = loaded(LETTERS + LETTERS + LETTERS);
        t.set(6, 60);
        for (int time = 0; time <= 60; time++) {
            due("word at " + time, t.hear('a' + time % 26), time + 1);
            told("pairs at " + time, t, 15, time + 1);
            t.tick(1);
        }
        due("the latest pair's time", t.trail(60, 0), 60);
        due("no further one", t.trail(61, 0), NONE);
        due("the oldest pair's time", t.trail(0, 0), 0);
        t.hear('a' + 61 % 26);
        told("one comes, one goes", t, 15, 61);
        due("the oldest pair's time then", t.trail(0, 0), 1);
        due("its position", t.trail(0, 1), 2);
        due("the latest pair's time then", t.trail(60, 0), 61);
        due("its position", t.trail(60, 1), 62);
        t.hear('a' + 62 % 26);
        told("another word at this time", t, 15, 61);
        t.set(5, 1);
        t.set(4, 5);
        due("a skip", t.hear('a' + 64 % 26), 65);
        told("a skip takes all pairs but its own", t, 15, 1);
        due("its time", t.trail(0, 0), 61);
        t.undo();
        told("undone", t, 15, 61);
        due("the latest position", t.trail(60, 1), 63);
        t.set(6, 1);
        told("a lesser memory cuts nothing yet", t, 15, 61);
        t.hear('a' + 63 % 26);
        told("but with the next word", t, 15, 2);
        due("the oldest one then", t.trail(0, 0), 60);
        due("its position", t.trail(0, 1), 61);
        due("the latest one's position", t.trail(1, 1), 64);
    }

    // Promise 17: "NONE if there are not so many; BAD if k is negative or what is out of range"
    private void numbersOfAPair() {
        Teleprompter t = loaded("abc");
        due("0 of an empty trail", t.trail(0, 0), NONE);
        due("-1 of an empty trail", t.trail(-1, 0), BAD);
        due("what -1 of an empty trail", t.trail(0, -1), BAD);
        due("what 2 of an empty trail", t.trail(0, 2), BAD);
        t.tick(3);
        t.hear('a');
        t.tick(4);
        t.hear('b');
        due("time of 0", t.trail(0, 0), 3);
        due("position of 0", t.trail(0, 1), 1);
        due("time of 1", t.trail(1, 0), 7);
        due("position of 1", t.trail(1, 1), 2);
        due("2", t.trail(2, 0), NONE);
        due("the greatest int", t.trail(Integer.MAX_VALUE, 1), NONE);
        due("-1", t.trail(-1, 0), BAD);
        due("the least int", t.trail(Integer.MIN_VALUE, 1), BAD);
        for (int what : new int[] {-1, 2, Integer.MIN_VALUE, Integer.MAX_VALUE}) {
            due("what " + what, t.trail(0, what), BAD);
            due("what " + what + " of too great a k", t.trail(2, what), BAD);
        }
    }

    // "the speed ... becomes 100 * (the latest position - the oldest one) / (...)", rounded down; "It is 0 at first."
    private void speeds() {
        // Words, ticks, and the speed by them.
        int[][] rows = {{1, 1, 100}, {1, 3, 33}, {2, 3, 66}, {3, 3, 100}, {1, 20, 5}, {2, 19, 10}, {4, 1, 400}};
        for (int[] row : rows) {
            Teleprompter t = loaded("abcdefgh");
            told("at first", t, 6, 0);
            t.hear('a');
            told("with one pair", t, 6, 0);
            t.tick(row[1]);
            hearAll(t, "bcdefgh".substring(0, row[0]));
            told(row[0] + " words in " + row[1] + " ticks", t, 6, row[2]);
        }
    }

    // The same with the greatest speed and nearly the greatest time that 512 calls can bring.
    private void greatestSpeed() {
        String text = (LETTERS + LETTERS + LETTERS + LETTERS + LETTERS).substring(0, 120);
        Teleprompter t = loaded(text);
        t.hear('a');
        t.tick(1);
        hearAll(t, text.substring(1));
        told("119 words in a tick", t, 5, 120, 11900, 119);
        t.place(0);
        told("only the lag of 2 is ahead", t, 7, 119);
        t.set(8, 0);
        told("no lag", t, 7, 0);
        for (int i = 0; i < 240; i++) {
            t.tick(100);
        }
        told("24001 ticks", t, 4, 24001, 0, 11900, 119, 2100, 2100);
        due("reached", t.reached(119), 0);
    }

    // "each waiting cue behind a word that is less than p - 1 is passed, and counted as overrun"
    private void overruns() {
        Teleprompter t = loaded("a/b/c/d/e/");
        t.set(5, 1);
        t.hear('a');
        told("its own cue waits", t, 14, 0);
        due("so", t.word(0, 3), 1);
        t.hear('b');
        told("the one before is passed", t, 14, 1);
        due("so", t.word(0, 3) * 10 + t.word(1, 3), 31);
        t = loaded("a/b/c/d/e/");
        t.set(5, 1);
        due("released", t.release(), 0);
        t.hear('z');
        told("a miss passes none", t, 14, 0);
        t.hear('d');
        told("two waiting ones, not the released one", t, 14, 2);
        told("the next one is behind the word itself", t, 16, 3);
        due("the released one stays so", t.word(0, 3), 2);
        t.hear('b');
        told("none waits before a repeat", t, 14, 2);
        t.hear('e');
        told("the passed ones are not counted again", t, 14, 3);
        told("passed ones are cues, too", t, 3, 5);
        told("the last cue waits at the end", t, 16, 4);
        due("so", t.word(4, 3), 1);
        t = loaded("a/".repeat(59) + "b/");
        t.set(5, 1);
        t.set(4, 60);
        due("a skip over 59 cues", t.hear('b'), 60);
        told("all of them are overrun", t, 14, 59);
        told("and are still cues", t, 3, 60);
        told("the last one waits", t, 16, 59);
    }

    // "The next cue is the waiting one with the lowest word"; promise 6: "STATE if there is none"
    private void nextCueAndNone() {
        Teleprompter t = loaded("a/bc/d/");
        due("the lowest one", t.release(), 0);
        due("the next one", t.release(), 2);
        told("the last one", t, 16, 3);
        due("the last one", t.release(), 3);
        told("none", t, 16, NONE);
        due("none", t.release(), STATE);
        told("released ones are cues, too", t, 3, 3);
        due("no cue at all", new Teleprompter().release(), STATE);
        t = loaded("a/b");
        t.place(1);
        due("passed ones cannot be released", t.release(), STATE);
        t = loaded("a".repeat(119) + "b/");
        due("the last of 120 words", t.release(), 119);
    }

    // Promise 7: "all cues behind words from the position on wait again, all those before it are passed"
    private void cuesAroundAPlace() {
        for (int word = 0; word < 4; word++) {
            Teleprompter t = loaded("a/b/c/d/");
            t.release();
            t.release();
            t.set(5, 1);
            t.hear('d');
            told("the third one is overrun", t, 14, 1);
            t.place(word);
            for (int cue = 0; cue < 4; cue++) {
                due("cue " + cue + " placed at " + word, t.word(cue, 3), cue < word ? 3 : 1);
            }
            told("none is counted", t, 14, 1);
            told("the next one", t, 16, word);
        }
        Teleprompter t = loaded("ab/c");
        t.place(2);
        due("words without a cue get none", t.word(0, 3) * 100 + t.word(1, 3) * 10 + t.word(2, 3), 30);
    }

    // Promise 7: "(without being counted)": waiting ones that a skip would count
    private void placeCountsNothing() {
        Teleprompter t = loaded("a/b/c/d/");
        t.place(3);
        due("three are passed", t.word(0, 3) * 100 + t.word(1, 3) * 10 + t.word(2, 3), 333);
        told("none is overrun", t, 14, 0);
        told("it is no skip", t, 10, 0);
        t.place(1);
        told("it is no repeat", t, 11, 0);
        told("nor a miss", t, 12, 0);
        t.place(2);
        told("none is overrun by a second place", t, 14, 0);
        t.set(5, 1);
        t.hear('d');
        told("what waits again can be overrun again", t, 14, 1);
    }

    // Promise 7: "BAD if there is no such word", and what is forgotten and what stays
    private void placesFrom0ToN() {
        Teleprompter t = loaded("abcd");
        due("-1", t.place(-1), BAD);
        due("n", t.place(4), BAD);
        due("n - 1", t.place(3), 0);
        due("0", t.place(0), 3);
        hearAll(t, "ab");
        t.tick(2);
        hearAll(t, "cd");
        told("at the end", t, 5, 4, 100);
        due("from the end", t.place(3), 4);
        told("the speed stays", t, 5, 3, 100);
        told("the trail is forgotten", t, 15, 0);
        told("the words are forgotten", t, 17, 0);
        due("so", t.heard(0), NONE);
        due("so", t.trail(0, 0), NONE);
        told("no skip, repeat or miss", t, 10, 0, 0, 0);
        t.set(8, 0);
        t.place(0);
        told("no time since", t, 7, 0);
        t.tick(1);
        told("one tick since", t, 7, 1);
    }

    // "If none is accepted, this is a miss", and nothing else but that the word is kept
    private void missChangesNothingElse() {
        Teleprompter t = loaded("ab/cdefgh|ijk");
        t.hear('a');
        t.tick(3);
        t.hear('b');
        t.tick(30);
        int[] before = new int[18];
        for (int what = 0; what < 18; what++) {
            before[what] = t.told(what);
        }
        due("no candidate", t.hear('z'), NONE);
        due("one that is not accepted", t.hear('g'), NONE);
        before[12] = 2;
        before[17] = 4;
        for (int what = 0; what < 18; what++) {
            due("told(" + what + ") behind two misses", t.told(what), before[what]);
        }
        due("both are kept", t.heard(0) * 1000 + t.heard(1), 'g' * 1000 + 'z');
        due("the trail stays", t.trail(0, 0) + t.trail(1, 0), 3);
    }

    // Promise 12: "BAD if what is out of range"
    private void numbersTold() {
        Teleprompter t = new Teleprompter();
        due("-1", t.told(-1), BAD);
        due("0", t.told(0), 1);
        due("18", t.told(18), 0);
        due("19", t.told(19), BAD);
        due("the least int", t.told(Integer.MIN_VALUE), BAD);
        due("the greatest int", t.told(Integer.MAX_VALUE), BAD);
        told("NONE is told of the next cue alone", t, 15, 0, NONE, 0);
    }

    public static void main(String[] args) {
        FollowingEdgesTest test = new FollowingEdgesTest();
        test.positionFrom0ToN();
        test.atTheEnd();
        test.lettersFromAToZ();
        test.keeps4Words();
        test.windowFromBackToAhead();
        test.windowWithinTheScript();
        test.scoresFrom1To4();
        test.passagesAndCuesDoNotCount();
        test.scoreOutOfTheWindow();
        test.bestOfSeveral();
        test.acceptedByTheNeed();
        test.betterThanPButBelowTheNeed();
        test.bestOfNone();
        test.skipsAndRepeats();
        test.onePairATime();
        test.pairsAsOldAsTheMemory();
        test.oldPairsStayUntilThen();
        test.mostPairs();
        test.numbersOfAPair();
        test.speeds();
        test.greatestSpeed();
        test.overruns();
        test.nextCueAndNone();
        test.cuesAroundAPlace();
        test.placeCountsNothing();
        test.placesFrom0ToN();
        test.missChangesNothingElse();
        test.numbersTold();
        test.end();
    }
}
