/** Counts and prints the answers that are not as due. */
final class Checks {
    private int right;
    private int wrong;

    void due(String call, double got, double want) {
        if (got == want) {
            right++;
        } else {
            wrong++;
            System.out.println(call + " answered " + got + ", due is " + want);
        }
    }

    void due(String call, boolean holds) {
        due(call, holds ? 1 : 0, 1);
    }

    /** A new object that has read a text. */
    Teleprompter loaded(String text) {
        Teleprompter made = new Teleprompter();
        rewrite(made, text);
        due("load of " + text, made.load() > 0);
        return made;
    }

    static void rewrite(Teleprompter teleprompter, String text) {
        teleprompter.wipe();
        for (int i = 0; i < text.length(); i++) {
            teleprompter.write(text.charAt(i));
        }
    }

    static void hearAll(Teleprompter teleprompter, String words) {
        for (int i = 0; i < words.length(); i++) {
            teleprompter.hear(words.charAt(i));
        }
    }

    void end() {
        System.out.println(right + " answers are as due, " + wrong + " are not");
        if (wrong > 0 || right == 0) {
            System.exit(1);
        }
    }
}
