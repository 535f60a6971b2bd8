/** The edges of THE TEXT and of promises 2, 9, 10 and 11: a method for each sentence that names one. */
public final class TextEdgesTest extends Checks {
    private static final String MOST_WORDS = "a".repeat(120);

    private void reads(String text, int words, int passages, int cues) {
        Teleprompter t = new Teleprompter();
        rewrite(t, text);
        due("load of " + text, t.load(), words);
        told(text, t, 0, words);
        told(text, t, 2, passages, cues);
        due("no fault in " + text, t.fault(0), NONE);
    }

    private void refuses(String text, int kind, int place) {
        Teleprompter t = new Teleprompter();
        rewrite(t, text);
        due("load of " + text, t.load(), STATE);
        due("kind of fault in " + text, t.fault(0), kind);
        due("place of fault in " + text, t.fault(1), place);
        due("word that stays behind " + text, t.word(0, 0), 'a');
        told("script that stays behind " + text, t, 0, 1, 1, 1, 0);
    }

    // "The text has at most 140 bytes"
    private void at140Bytes() {
        Teleprompter t = new Teleprompter();
        for (int length = 1; length <= 140; length++) {
            due("byte " + length, t.write('b'), length);
        }
        due("byte 141", t.write('b'), FULL);
        due("byte 141 once more", t.write(' '), FULL);
        due("length", t.wipe(), 140);
        due("there is space again", t.write('b'), 1);
    }

    // The same: the 140th byte is read, too, and all places before it.
    private void readsAll140Bytes() {
        reads("ab/".repeat(46) + "yz", 94, 1, 46);
        reads(MOST_WORDS + " ".repeat(19) + " ", 120, 1, 0);
        refuses("ab/".repeat(46) + "y!", 1, 139);
        refuses("ab/".repeat(46) + "y|", 5, 140);
        Teleprompter t = loaded("a".repeat(100) + "b/".repeat(20));
        due("the 140th byte is the cue of the 120th word", t.word(119, 3), 1);
        told("all", t, 0, 120);
        told("all", t, 3, 20);
    }

    // "with codes from 32 to 126"; promise 9: "BAD if code is out of range"
    private void codesFrom32To126() {
        Teleprompter t = new Teleprompter();
        due("31", t.write(31), BAD);
        due("32", t.write(32), 1);
        due("126", t.write(126), 2);
        due("127", t.write(127), BAD);
        due("0", t.write(0), BAD);
        due("-1", t.write(-1), BAD);
        due("'a' + 256", t.write('a' + 256), BAD);
        due("the least int", t.write(Integer.MIN_VALUE), BAD);
        due("the greatest int", t.write(Integer.MAX_VALUE), BAD);
        due("the refused ones are not in the text", t.wipe(), 2);
    }

    // Promise 9: "FULL if the text has 140 bytes", and "the first one in this list is returned"
    private void badBeforeFull() {
        Teleprompter t = new Teleprompter();
        rewrite(t, "b".repeat(139));
        due("31 with 139 bytes", t.write(31), BAD);
        due("127 with 139 bytes", t.write(127), BAD);
        due("the 140th", t.write(32), 140);
        due("32 with 140 bytes", t.write(32), FULL);
        due("126 with 140 bytes", t.write(126), FULL);
        due("31 with 140 bytes", t.write(31), BAD);
        due("127 with 140 bytes", t.write(127), BAD);
    }

    // "and is empty at first"; promise 10: "the length that it had"
    private void emptyAtFirstAndWiped() {
        Teleprompter t = new Teleprompter();
        due("wipe of a new text", t.wipe(), 0);
        due("load of a new text", t.load(), STATE);
        due("kind", t.fault(0), 5);
        due("place", t.fault(1), 0);
        t.write('a');
        due("wipe of one byte", t.wipe(), 1);
        due("wipe of none", t.wipe(), 0);
        due("load of a wiped text", t.load(), STATE);
        due("kind", t.fault(0), 5);
        due("place", t.fault(1), 0);
        rewrite(t, "abc");
        t.wipe();
        t.write('/');
        due("what was wiped does not stand before a new byte", t.load(), STATE);
        due("kind", t.fault(0), 2);
        due("place", t.fault(1), 0);
    }

    // "a letter from a to z is a word", "blanks mean nothing", "1 a byte that is none of these"
    private void everyCode() {
        for (int code = 32; code <= 126; code++) {
            String text = "m" + (char) code + "n";
            if (code >= 'a' && code <= 'z') {
                reads(text, 3, 1, 0);
                due("the letter " + code, loaded(text).word(1, 0), code);
            } else if (code == '/') {
                reads(text, 2, 1, 1);
            } else if (code == '|') {
                reads(text, 2, 2, 0);
            } else if (code == ' ') {
                reads(text, 2, 1, 0);
            } else {
                refuses(text, 1, 1);
            }
        }
        refuses("!", 1, 0);
        refuses("A", 1, 0);
        reads("a", 1, 1, 0);
        reads("z", 1, 1, 0);
    }

    // "2 a / that does not stand directly behind a word (also with a blank between)"
    private void cuesBehindWords() {
        reads("a/", 1, 1, 1);
        reads("a/b/c/", 3, 1, 3);
        reads(" a/ b", 2, 1, 1);
        reads("a|b/", 2, 2, 1);
        refuses("/", 2, 0);
        refuses(" /", 2, 1);
        refuses("a /", 2, 2);
        refuses("a   /b", 2, 4);
        refuses("a//", 2, 2);
        refuses("a/ /", 2, 3);
        refuses("a|/b", 2, 2);
        Teleprompter t = loaded("ab/c");
        due("no cue before it", t.word(1, 3) * 100 + t.word(0, 3) * 10 + t.word(2, 3), 100);
    }

    // "3 a | before which there is no word yet, or no word since the | before it"
    private void passagesWithWords() {
        reads("a|b", 2, 2, 0);
        reads("a|b|c", 3, 3, 0);
        reads("a | b", 2, 2, 0);
        reads("a/|b", 2, 2, 1);
        reads("a|".repeat(69) + "ab", 71, 70, 0);
        refuses("|", 3, 0);
        refuses("|a", 3, 0);
        refuses("  |a", 3, 2);
        refuses("a||b", 3, 2);
        refuses("a|  |b", 3, 4);
        refuses("a/||b", 3, 3);
        refuses("a|b|c||", 3, 6);
    }

    // "4 a 121st word"; "with n from 1 to 120"
    private void at120Words() {
        reads("a".repeat(119), 119, 1, 0);
        reads(MOST_WORDS, 120, 1, 0);
        reads(MOST_WORDS + "/", 120, 1, 1);
        reads("a".repeat(119) + "|b", 120, 2, 0);
        refuses(MOST_WORDS + "a", 4, 120);
        refuses(MOST_WORDS + " a", 4, 121);
        refuses(MOST_WORDS + "/z", 4, 121);
        refuses(MOST_WORDS + "|a", 4, 121);
        refuses("a".repeat(119) + "|bc", 4, 121);
        refuses(MOST_WORDS + " ".repeat(19) + "a", 4, 139);
        refuses("a".repeat(140), 4, 120);
        refuses(MOST_WORDS + "|", 5, 121);
    }

    // "5 the text ends without a word, or with no word since the last |"; the place: "the length of the text for 5"
    private void endsWithoutWord() {
        refuses("", 5, 0);
        refuses(" ", 5, 1);
        refuses(" ".repeat(140), 5, 140);
        refuses("a|", 5, 2);
        refuses("a/|", 5, 3);
        refuses("a| ", 5, 3);
        refuses("a|b| ", 5, 5);
        refuses("a|" + " ".repeat(138), 5, 140);
        reads(" ".repeat(139) + "a", 1, 1, 0);
    }

    // "The text is read from left to right, and the first fault counts."
    private void firstFaultCounts() {
        refuses("!/|", 1, 0);
        refuses("/!|", 2, 0);
        refuses("|/!", 3, 0);
        refuses("a/!//", 1, 2);
        refuses("a//!", 2, 2);
        refuses("a|!", 1, 2);
        refuses("a|", 5, 2);
        refuses("a!|", 1, 1);
        refuses(MOST_WORDS + "a!", 4, 120);
        refuses(MOST_WORDS + "!a", 1, 120);
        refuses(MOST_WORDS + "||a", 3, 121);
    }

    // Promise 11: "the fault that the latest call of load() with the result STATE has found", "NONE if there was no
    // such call", "BAD if what is out of range"
    private void latestFault() {
        Teleprompter t = new Teleprompter();
        due("none at first", t.fault(0), NONE);
        due("nor a place", t.fault(1), NONE);
        due("-1 is bad before there is one", t.fault(-1), BAD);
        due("2 is bad before there is one", t.fault(2), BAD);
        rewrite(t, "a");
        t.load();
        due("none behind a load without a fault", t.fault(0), NONE);
        rewrite(t, "a!");
        t.load();
        due("kind", t.fault(0), 1);
        due("place", t.fault(1), 1);
        due("-1", t.fault(-1), BAD);
        due("2", t.fault(2), BAD);
        due("the least int", t.fault(Integer.MIN_VALUE), BAD);
        due("the greatest int", t.fault(Integer.MAX_VALUE), BAD);
        t.release();
        t.back(0);
        due("another method's STATE is none", t.fault(0), 1);
        rewrite(t, "abc|");
        due("not before load", t.fault(1), 1);
        t.load();
        due("the later kind", t.fault(0), 5);
        due("the later place", t.fault(1), 4);
        rewrite(t, "a");
        due("a load without a fault", t.load(), 1);
        due("leaves the kind", t.fault(0), 5);
        due("leaves the place", t.fault(1), 4);
    }

    // Promise 2: "everything but the settings, the text and the images is as at first then, with this script"
    private void loadStartsAnew() {
        String text = "xy/z|xy";
        Teleprompter t = loaded("ab/cdef/g|hij");
        t.set(0, 2);
        t.set(1, 1);
        t.set(5, 1);
        t.hear('a');
        t.tick(3);
        t.hear('b');
        t.release();
        hearAll(t, "efgzca");
        t.tick(9);
        told("all has happened", t, 10, 1, 2, 1, 2, 1, 1);
        t.keep(1);
        rewrite(t, text);
        due("words", t.load(), 5);
        told("as at first", t, 4, 0, 0, 0, 0, 0, 0, 0, 0, 0, 0, 0, 0, 1, 0, 8);
        same("nothing of the old script is left", View.state(() -> reloaded("abcdefghij|k", text)),
            View.state(() -> onceLoaded(text)));
        due("the settings stay", t.setting(0) * 100 + t.setting(1) * 10 + t.setting(5), 211);
        due("the text stays", t.load(), 5);
        due("the image stays", t.back(1), 1);
    }

    private static Teleprompter reloaded(String first, String second) {
        Teleprompter t = onceLoaded(first);
        t.hear(first.charAt(0));
        t.tick(2);
        t.hear(first.charAt(1));
        rewrite(t, second);
        t.load();
        return t;
    }

    private static Teleprompter onceLoaded(String text) {
        Teleprompter t = new Teleprompter();
        rewrite(t, text);
        t.load();
        return t;
    }

    public static void main(String[] args) {
        TextEdgesTest test = new TextEdgesTest();
        test.at140Bytes();
        test.readsAll140Bytes();
        test.codesFrom32To126();
        test.badBeforeFull();
        test.emptyAtFirstAndWiped();
        test.everyCode();
        test.cuesBehindWords();
        test.passagesWithWords();
        test.at120Words();
        test.endsWithoutWord();
        test.firstFaultCounts();
        test.latestFault();
        test.loadStartsAnew();
        test.end();
    }
}
