/** The edges of THE SCRIPT and of promises 3, 13, 14, 15, 20 and 21: a method for each sentence that names one. */
public final class ScriptEdgesTest extends Checks {
    private static final int[] LEAST = {1, 1, 0, 0, 1, 1, 1, 1, 0};
    private static final int[] MOST = {12, 8, 7, 30, 60, 4, 60, 100, 10};
    private static final int[] FIRST = {5, 3, 1, 8, 15, 2, 20, 25, 2};
    private static final String MOST_WORDS = "a".repeat(120);

    // "There are these settings (in parentheses: range; first value)"
    private void rangesOfSettings() {
        for (int s = 0; s < 9; s++) {
            Teleprompter t = new Teleprompter();
            due("first value of " + s, t.setting(s), FIRST[s]);
            due("below the least of " + s, t.set(s, LEAST[s] - 1), BAD);
            due("stays, " + s, t.setting(s), FIRST[s]);
            due("above the most of " + s, t.set(s, MOST[s] + 1), BAD);
            due("the least int for " + s, t.set(s, Integer.MIN_VALUE), BAD);
            due("the greatest int for " + s, t.set(s, Integer.MAX_VALUE), BAD);
            due("stays too, " + s, t.setting(s), FIRST[s]);
            due("the least of " + s, t.set(s, LEAST[s]), FIRST[s]);
            due("is set, " + s, t.setting(s), LEAST[s]);
            due("the most of " + s, t.set(s, MOST[s]), LEAST[s]);
            due("is set too, " + s, t.setting(s), MOST[s]);
            due("only the three are changes", t.told(18), 2);
            for (int other = 0; other < 9; other++) {
                due("setting " + other + " behind set of " + s, t.setting(other), other == s ? MOST[s] : FIRST[other]);
            }
        }
    }

    // Promises 3 and 13: "BAD if there is no such setting"
    private void settings0To8() {
        Teleprompter t = new Teleprompter();
        for (int s : new int[] {-1, 9, Integer.MIN_VALUE, Integer.MAX_VALUE}) {
            due("set of " + s, t.set(s, 1), BAD);
            due("setting of " + s, t.setting(s), BAD);
        }
        due("set of 0", t.set(0, 1), 5);
        due("set of 8", t.set(8, 1), 2);
        due("setting of 0", t.setting(0), 1);
        due("setting of 8", t.setting(8), 1);
    }

    // "n words, 0 to n - 1": promise 14's "BAD if there is no such word", and the other methods of a word
    private void words0ToN() {
        for (int n : new int[] {1, 2, 120}) {
            Teleprompter t = loaded("a".repeat(n));
            for (int word : new int[] {-1, n, Integer.MIN_VALUE, Integer.MAX_VALUE}) {
                String of = " of " + word + " with " + n + " words";
                due("word" + of, t.word(word, 0), BAD);
                due("score" + of, t.score(word), BAD);
                due("unique" + of, t.unique(word), BAD);
                due("reached" + of, t.reached(word), BAD);
                due("place" + of, t.place(word), BAD);
            }
            for (int word : new int[] {0, n - 1}) {
                String of = " of " + word + " with " + n + " words";
                due("word" + of, t.word(word, 0), 'a');
                due("score" + of, t.score(word), 1);
                due("unique" + of, t.unique(word) != BAD);
                due("reached" + of, t.reached(word) != BAD);
                due("place" + of, t.place(word) != BAD);
            }
        }
    }

    // The same, behind a script that was longer: what it had is no more.
    private void shorterScript() {
        Teleprompter t = loaded("abcdefg/h|ij");
        rewrite(t, "ab");
        due("load", t.load(), 2);
        due("word 2 is no more", t.word(2, 0), BAD);
        due("row 1 is no more", t.row(1, 0), BAD);
        due("row 0 has two words", t.row(0, 1), 2);
        told("one passage, no cue", t, 2, 1, 0);
        told("no next cue", t, 16, NONE);
        due("no word c", t.best('c', 0), NONE);
        t = loaded("aba/");
        rewrite(t, "ab");
        due("load", t.load(), 2);
        told("the cue directly behind the end is no more", t, 3, 0);
        told("nor is it the next one", t, 16, NONE);
        due("the word directly behind the end is no more", t.unique(0), 1);
        due("nor can it be heard", t.best('a', 0) * 10 + t.best('b', 0), 1);
    }

    // Promise 14: "what: 0 ... 4"
    private void numbersOfAWord() {
        Teleprompter t = loaded("ab/");
        due("-1", t.word(0, -1), BAD);
        due("0", t.word(1, 0), 'b');
        due("4", t.word(1, 4), 1);
        due("5", t.word(0, 5), BAD);
        due("the least int", t.word(0, Integer.MIN_VALUE), BAD);
        due("the greatest int", t.word(0, Integer.MAX_VALUE), BAD);
    }

    // "each row has as many words as the width tells, the last one perhaps fewer"
    private void fullAndPartRows() {
        for (int width = 1; width <= 12; width++) {
            for (int words : new int[] {1, width, width + 1, 2 * width, 2 * width + 1, 120}) {
                Teleprompter t = loaded("a".repeat(words));
                t.set(0, width);
                int full = words / width;
                int rest = words % width;
                int rows = full + (rest > 0 ? 1 : 0);
                String of = words + " words, " + width + " wide: ";
                told(of, t, 1, rows);
                due(of + "first row", t.row(0, 1), Math.min(words, width));
                due(of + "last row", t.row(rows - 1, 1), rest > 0 ? rest : width);
                due(of + "first word of the last row", t.row(rows - 1, 0), words - (rest > 0 ? rest : width));
                due(of + "row of the last word", t.word(words - 1, 1), rows - 1);
                due(of + "row of the width's last word", t.word(Math.min(words, width) - 1, 1), 0);
                due(of + "no row behind", t.row(rows, 0), BAD);
            }
        }
    }

    // "Each passage begins a new row"
    private void passagesBeginRows() {
        Teleprompter t = loaded("abcde|fghij|k");
        told("full rows and no empty one between", t, 1, 3, 3);
        due("row 1", t.row(1, 0) * 100 + t.row(1, 1), 505);
        due("row 2", t.row(2, 0) * 100 + t.row(2, 1), 1001);
        t = loaded("abcdef|ghi");
        told("a row of one word before a passage", t, 1, 3, 2);
        due("row 1", t.row(1, 0) * 100 + t.row(1, 1), 501);
        due("row 2", t.row(2, 0) * 100 + t.row(2, 1), 603);
        t = loaded("a|".repeat(69) + "a");
        told("as many rows as words", t, 0, 70, 70, 70);
        t.set(0, 12);
        told("however wide", t, 1, 70);
        due("the last passage", t.word(69, 2), 69);
        due("the first passage", t.word(0, 2), 0);
    }

    // "Rows are numbered from 0; R is their number"; promise 15: "BAD if there is no such row or what is out of range"
    private void rows0ToR() {
        Teleprompter t = loaded(MOST_WORDS);
        t.set(0, 1);
        told("most rows", t, 1, 120);
        due("row -1", t.row(-1, 0), BAD);
        due("row 0", t.row(0, 0), 0);
        due("row 119", t.row(119, 0), 119);
        due("its words", t.row(119, 1), 1);
        due("row 120", t.row(120, 0), BAD);
        due("the least int", t.row(Integer.MIN_VALUE, 0), BAD);
        due("the greatest int", t.row(Integer.MAX_VALUE, 1), BAD);
        due("what -1", t.row(0, -1), BAD);
        due("what 2", t.row(0, 2), BAD);
        t = new Teleprompter();
        due("the only row", t.row(0, 1), 1);
        due("no other one", t.row(1, 1), BAD);
    }

    /** Rows of one word, the last one shown by a height of 1: so the top is T. */
    private Teleprompter atTheBottom(int rows) {
        Teleprompter t = loaded("a".repeat(rows));
        t.set(0, 1);
        t.set(1, 1);
        t.place(rows - 1);
        t.tick(1);
        told("at the bottom", t, 8, 100 * (rows - 1));
        return t;
    }

    // Promise 3: "if the top is out of its range then, it is limited"; "T is 100 * (R - height), or 0 if R is less"
    private void setLimitsTheTop() {
        Teleprompter t = atTheBottom(8);
        t.set(1, 1);
        told("T is 700: the top is T and stays", t, 8, 700);
        t.set(1, 2);
        told("T is 600", t, 8, 600);
        t.set(1, 2);
        told("T is 600 again", t, 8, 600);
        t.set(1, 7);
        told("T is 100", t, 8, 100);
        t.set(1, 8);
        told("as many rows as the height", t, 8, 0);
        t.set(1, 1);
        told("the top goes down only", t, 8, 0);
        t = atTheBottom(7);
        t.set(1, 8);
        told("fewer rows than the height", t, 8, 0);
        t = atTheBottom(8);
        t.set(0, 2);
        told("4 rows, T is 300", t, 8, 300);
        t.set(0, 7);
        told("2 rows, T is 100", t, 8, 100);
        t.set(0, 8);
        told("1 row", t, 8, 0);
        t = atTheBottom(120);
        t.set(1, 8);
        told("120 rows", t, 8, 11200);
    }

    // Promise 3: "nothing else changes before the next word or tick"
    private void setChangesNothingElse() {
        Teleprompter t = loaded("abcdefgh/ij");
        t.set(0, 1);
        t.set(1, 2);
        t.hear('a');
        t.tick(4);
        t.hear('b');
        t.tick(1);
        int[] before = new int[18];
        for (int what = 0; what < 18; what++) {
            before[what] = t.told(what);
        }
        int[] values = {7, 0, 1, 4, 1, 100};
        for (int s = 2; s < 8; s++) {
            t.set(s, values[s - 2]);
            for (int what = 0; what < 18; what++) {
                if (what != 9) {
                    due("told(" + what + ") behind set of " + s, t.told(what), before[what]);
                }
            }
        }
        due("both pairs are still in the trail", t.trail(0, 0), 0);
        due("the words are still kept", t.heard(1), 'a');
    }

    // Promise 20: "the number, 1 to 4; NONE if more than 4 are needed, or there are not so many words up to it"
    private void uniqueFrom1To4() {
        Teleprompter t = loaded("wbcdxwbcdybcde");
        due("e needs 1", t.unique(13), 1);
        due("the first b needs 3, but there are 2", t.unique(1), NONE);
        due("the second c needs 4: x w b c", t.unique(7), 4);
        due("the second d needs 5", t.unique(8), NONE);
        due("the b behind y needs 2", t.unique(10), 2);
        due("the c behind y needs 3", t.unique(11), 3);
        due("the d behind y needs 4", t.unique(12), 4);
        t = loaded("abcd|eabcd");
        due("four that stand twice", t.unique(3), NONE);
        due("five are needed", t.unique(8), NONE);
        t = loaded("abcab");
        due("word 0, that stands twice", t.unique(0), NONE);
        due("word 1 and the one before it stand twice", t.unique(1), NONE);
        due("c a", t.unique(3), 2);
        due("c a b", t.unique(4), 3);
        due("a script of one word", new Teleprompter().unique(0), 1);
        t = loaded("aaaaa");
        due("the places may overlap: four stand twice", t.unique(3), NONE);
        due("also at the end", t.unique(4), NONE);
        t = loaded("aaaa");
        due("three stand twice, four once", t.unique(3), 4);
        due("three before the end", t.unique(2), NONE);
        due("over the end of a passage", loaded("ab|ab").unique(3), 3);
        t = loaded("ab|cab|c");
        due("b c and a b c stand twice over the ends of passages", t.unique(5), 4);
        t = loaded("abcxab|c");
        due("a b c stands once over the end of a passage", t.unique(6), 4);
        due("and once within one", t.unique(2), NONE);
        due("cues do not count", loaded("a/bab/").unique(3), 3);
    }

    // Promise 21: "n divided by R, both converted to float"
    private void meanAtTheEnds() {
        due("new", new Teleprompter().mean(), 1.0f);
        Teleprompter t = loaded(MOST_WORDS);
        due("120 in 24", t.mean(), 5.0f);
        t.set(0, 12);
        due("120 in 10", t.mean(), 12.0f);
        t.set(0, 1);
        due("120 in 120", t.mean(), 1.0f);
        t.set(0, 7);
        due("120 in 18", t.mean(), 120.0f / 18.0f);
        due("not by whole numbers", t.mean() > 6.6f);
        due("not by doubles", t.mean() != 120.0 / 18.0);
    }

    public static void main(String[] args) {
        ScriptEdgesTest test = new ScriptEdgesTest();
        test.rangesOfSettings();
        test.settings0To8();
        test.words0ToN();
        test.shorterScript();
        test.numbersOfAWord();
        test.fullAndPartRows();
        test.passagesBeginRows();
        test.rows0ToR();
        test.setLimitsTheTop();
        test.setChangesNothingElse();
        test.uniqueFrom1To4();
        test.meanAtTheEnds();
        test.end();
    }
}
