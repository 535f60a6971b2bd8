/**
 * A teleprompter that follows its reader by the words that it hears.
 *
 * <p>Every array is made in a constructor and used again afterwards: no other method makes an object.
 */
public final class Teleprompter {
    public static final int BAD = -1, STATE = -2, FULL = -3, NONE = -9;

    private static final int MOST_BYTES = 140;
    private static final int MOST_WORDS = 120;
    private static final int MOST_KEPT = 4;
    private static final int MOST_SCORE = 4;
    private static final int MOST_STATES = 8;
    private static final int IMAGES = 2;
    private static final int MOST_UNIQUE = 4;
    private static final int MOST_REACHED = 500;

    // The memory is at most 60 ticks, and there is one pair for each time in it, both ends included.
    private static final int MOST_PAIRS = 61;

    private static final int SETTINGS = 9;
    private static final int WIDTH = 0;
    private static final int HEIGHT = 1;
    private static final int FOCUS = 2;
    private static final int BACK = 3;
    private static final int AHEAD = 4;
    private static final int NEED = 5;
    private static final int MEMORY = 6;
    private static final int LIMIT = 7;
    private static final int LAG = 8;
    private static final int[] LEAST = {1, 1, 0, 0, 1, 1, 1, 1, 0};
    private static final int[] MOST = {12, 8, 7, 30, 60, 4, 60, 100, 10};
    private static final int[] FIRST = {5, 3, 1, 8, 15, 2, 20, 25, 2};

    private static final int NO_CUE = 0;
    private static final int WAITING = 1;
    private static final int RELEASED = 2;
    private static final int PASSED = 3;

    private static final int NO_FAULT = 0;
    private static final int STRANGE_BYTE = 1;
    private static final int STRAY_CUE = 2;
    private static final int EMPTY_PASSAGE = 3;
    private static final int TOO_MANY_WORDS = 4;
    private static final int ENDS_WITHOUT_WORD = 5;

    private final int[] text = new int[MOST_BYTES];
    private int textLength;
    private int faultKind;
    private int faultPlace;
    private final Script draft = new Script();
    private final State now = new State();
    private final State copy = new State();
    private final State[] history = new State[MOST_STATES];
    private int undoable;
    private final State[] images = new State[IMAGES];
    private final boolean[] imageKept = new boolean[IMAGES];

    public Teleprompter() {
        for (int i = 0; i < history.length; i++) {
            history[i] = new State();
        }
        for (int i = 0; i < images.length; i++) {
            images[i] = new State();
        }
        copyRow(FIRST, now.settings);
        draft.empty();
        draft.read('a', ' ');
        now.begin(draft);
    }

    // ---- changes

    public int load() {
        if (!readText()) {
            return STATE;
        }
        record();
        now.begin(draft);
        return now.script.words;
    }

    public int set(int setting, int value) {
        if (!isSetting(setting) || value < at(LEAST, setting) || value > at(MOST, setting)) {
            return BAD;
        }
        record();
        int previous = at(now.settings, setting);
        now.change(setting, value);
        return previous;
    }

    public int hear(int word) {
        if (!isLetter(word)) {
            return BAD;
        }
        record();
        return now.listen(word) ? now.position : NONE;
    }

    public int tick(int n) {
        if (n < 1 || n > 100) {
            return BAD;
        }
        record();
        return now.passTime(n);
    }

    public int release() {
        int cue = now.script.nextCue();
        if (cue == NONE) {
            return STATE;
        }
        record();
        now.script.freeCue(cue);
        return cue;
    }

    public int place(int word) {
        if (!now.script.has(word)) {
            return BAD;
        }
        record();
        int previous = now.position;
        now.jump(word);
        return previous;
    }

    public int undo() {
        if (undoable < 1) {
            return STATE;
        }
        undoable--;
        now.become(stateAt(history, undoable));
        return undoable;
    }

    // ---- the text

    public int write(int code) {
        if (code < 32 || code > 126) {
            return BAD;
        }
        if (textLength >= MOST_BYTES) {
            return FULL;
        }
        put(text, textLength, code);
        textLength++;
        return textLength;
    }

    public int wipe() {
        int length = textLength;
        textLength = 0;
        return length;
    }

    public int fault(int what) {
        if (what < 0 || what > 1) {
            return BAD;
        }
        if (faultKind == NO_FAULT) {
            return NONE;
        }
        return what == 0 ? faultKind : faultPlace;
    }

    // ---- what is told

    public int told(int what) {
        switch (what) {
            case 0: return now.script.words;
            case 1: return now.script.rows;
            case 2: return now.script.passages;
            case 3: return now.script.cueCount();
            case 4: return now.time;
            case 5: return now.position;
            case 6: return now.speed;
            case 7: return now.estimatedWord();
            case 8: return now.top;
            case 9: return now.desiredTop(now.estimatedWord());
            case 10: return now.skips;
            case 11: return now.repeats;
            case 12: return now.misses;
            case 13: return now.jerks;
            case 14: return now.overruns;
            case 15: return now.trail.pairs;
            case 16: return now.script.nextCue();
            case 17: return now.keptCount;
            case 18: return undoable;
            default: return BAD;
        }
    }

    public int setting(int setting) {
        return isSetting(setting) ? at(now.settings, setting) : BAD;
    }

    public int word(int word, int what) {
        Script script = now.script;
        if (!script.has(word)) {
            return BAD;
        }
        switch (what) {
            case 0: return at(script.letters, word);
            case 1: return at(script.rowOf, word);
            case 2: return at(script.passageOf, word);
            case 3: return at(script.cues, word);
            case 4: return now.shows(at(script.rowOf, word)) ? 1 : 0;
            default: return BAD;
        }
    }

    public int row(int row, int what) {
        if (row < 0 || row >= now.script.rows || what < 0 || what > 1) {
            return BAD;
        }
        return what == 0 ? at(now.script.firstOfRow, row) : now.script.rowLength(row);
    }

    public int heard(int k) {
        if (k < 0) {
            return BAD;
        }
        return k < now.keptCount ? at(now.kept, k) : NONE;
    }

    public int trail(int k, int what) {
        if (k < 0 || what < 0 || what > 1) {
            return BAD;
        }
        if (k >= now.trail.pairs) {
            return NONE;
        }
        return what == 0 ? at(now.trail.times, k) : at(now.trail.positions, k);
    }

    public int score(int word) {
        return now.script.has(word) ? now.points(word) : BAD;
    }

    public int best(int word, int what) {
        if (!isLetter(word) || what < 0 || what > 2) {
            return BAD;
        }
        int candidate = now.bestCandidate(word);
        if (candidate == NONE || what == 0) {
            return candidate;
        }
        if (what == 1) {
            return now.points(candidate);
        }
        return now.accepts(candidate) ? 1 : 0;
    }

    public int unique(int word) {
        return now.script.has(word) ? now.script.uniqueLength(word) : BAD;
    }

    public float mean() {
        int rows = now.script.rows;
        return rows > 0 ? (float) now.script.words / (float) rows : 0.0f;
    }

    // ---- what if

    public int reached(int word) {
        return now.script.has(word) ? now.ticksTo(word) : BAD;
    }

    public int rehearse(int pace, int what) {
        if (pace < 1 || pace > 10 || what < 0 || what > 3) {
            return BAD;
        }
        copy.become(now);
        copy.readToEnd(pace);
        switch (what) {
            case 0: return copy.jerks - now.jerks;
            case 1: return copy.skips - now.skips + copy.repeats - now.repeats;
            case 2: return copy.misses - now.misses;
            default: return copy.position;
        }
    }

    // ---- images

    public int keep(int i) {
        if (i < 0 || i >= imageKept.length) {
            return BAD;
        }
        stateAt(images, i).become(now);
        imageKept[i] = true;
        return now.position;
    }

    public int back(int i) {
        if (i < 0 || i >= imageKept.length) {
            return BAD;
        }
        if (!imageKept[i]) {
            return STATE;
        }
        record();
        now.become(stateAt(images, i));
        return now.position;
    }

    // ---- helpers

    /** Reads the text into the draft, up to its first fault; answers whether it has none. */
    private boolean readText() {
        draft.empty();
        for (int place = 0; place < textLength; place++) {
            int kind = draft.read(at(text, place), at(text, place - 1));
            if (kind != NO_FAULT) {
                faultKind = kind;
                faultPlace = place;
                return false;
            }
        }
        if (draft.wordsInPassage == 0) {
            faultKind = ENDS_WITHOUT_WORD;
            faultPlace = textLength;
            return false;
        }
        return true;
    }

    private void record() {
        if (undoable >= MOST_STATES) {
            dropOldest();
        }
        stateAt(history, undoable).become(now);
        undoable++;
    }

    /** The oldest state's object goes behind the others, to be written over next. */
    private void dropOldest() {
        State oldest = stateAt(history, 0);
        for (int i = 1; i < history.length; i++) {
            history[i - 1] = history[i];
        }
        if (history.length > 0) {
            history[history.length - 1] = oldest;
        }
        undoable--;
    }

    private State stateAt(State[] states, int i) {
        if (i >= 0 && i < states.length && states[i] != null) {
            return states[i];
        }
        return copy;
    }

    private static boolean isSetting(int setting) {
        return setting >= 0 && setting < SETTINGS;
    }

    private static boolean isLetter(int code) {
        return code >= 'a' && code <= 'z';
    }

    private static int at(int[] row, int i) {
        return i >= 0 && i < row.length ? row[i] : 0;
    }

    private static void put(int[] row, int i, int value) {
        if (i >= 0 && i < row.length) {
            row[i] = value;
        }
    }

    private static void copyRow(int[] from, int[] to) {
        System.arraycopy(from, 0, to, 0, Math.min(from.length, to.length));
    }

    private static int limited(int value, int least, int most) {
        return Math.max(least, Math.min(value, most));
    }

    /** The words of a script with their cues, and the rows in which they are laid. */
    private static final class Script {
        int words;
        int passages;
        int wordsInPassage;
        int rows;
        final int[] letters = new int[MOST_WORDS];
        final int[] passageOf = new int[MOST_WORDS];
        final int[] cues = new int[MOST_WORDS];
        final int[] rowOf = new int[MOST_WORDS];
        final int[] firstOfRow = new int[MOST_WORDS];

        void become(Script other) {
            words = other.words;
            passages = other.passages;
            wordsInPassage = other.wordsInPassage;
            rows = other.rows;
            copyRow(other.letters, letters);
            copyRow(other.passageOf, passageOf);
            copyRow(other.cues, cues);
            copyRow(other.rowOf, rowOf);
            copyRow(other.firstOfRow, firstOfRow);
        }

        void empty() {
            words = 0;
            passages = 1;
            wordsInPassage = 0;
        }

        /** Reads one byte of a text, behind the byte before it; answers the kind of its fault. */
        int read(int code, int before) {
            if (isLetter(code)) {
                return append(code);
            }
            if (code == '/') {
                return isLetter(before) ? setCue() : STRAY_CUE;
            }
            if (code == '|') {
                return wordsInPassage > 0 ? endPassage() : EMPTY_PASSAGE;
            }
            return code == ' ' ? NO_FAULT : STRANGE_BYTE;
        }

        private int append(int letter) {
            if (words >= MOST_WORDS) {
                return TOO_MANY_WORDS;
            }
            put(letters, words, letter);
            put(passageOf, words, passages - 1);
            put(cues, words, NO_CUE);
            words++;
            wordsInPassage++;
            return NO_FAULT;
        }

        private int setCue() {
            put(cues, words - 1, WAITING);
            return NO_FAULT;
        }

        private int endPassage() {
            passages++;
            wordsInPassage = 0;
            return NO_FAULT;
        }

        void lay(int width) {
            int inRow = 0;
            rows = 0;
            for (int word = 0; word < words; word++) {
                if (inRow == 0 || inRow >= width || at(passageOf, word) != at(passageOf, word - 1)) {
                    put(firstOfRow, rows, word);
                    rows++;
                    inRow = 0;
                }
                put(rowOf, word, rows - 1);
                inRow++;
            }
        }

        boolean has(int word) {
            return word >= 0 && word < words;
        }

        int rowLength(int row) {
            int end = row + 1 < rows ? at(firstOfRow, row + 1) : words;
            return end - at(firstOfRow, row);
        }

        int cueCount() {
            int count = 0;
            for (int word = 0; word < words; word++) {
                if (at(cues, word) != NO_CUE) {
                    count++;
                }
            }
            return count;
        }

        /** The word of the next cue, or NONE. */
        int nextCue() {
            for (int word = 0; word < words; word++) {
                if (at(cues, word) == WAITING) {
                    return word;
                }
            }
            return NONE;
        }

        void freeCue(int word) {
            put(cues, word, RELEASED);
        }

        /** Passes the waiting cues behind the words before one; answers how many they were. */
        int passWaitingBefore(int end) {
            int passed = 0;
            for (int word = 0; word < words && word < end; word++) {
                if (at(cues, word) == WAITING) {
                    put(cues, word, PASSED);
                    passed++;
                }
            }
            return passed;
        }

        /** All cues before a word are passed then, the others wait. */
        void setCuesAround(int start) {
            for (int word = 0; word < words; word++) {
                if (at(cues, word) != NO_CUE) {
                    put(cues, word, word < start ? PASSED : WAITING);
                }
            }
        }

        int uniqueLength(int word) {
            for (int length = 1; length <= MOST_UNIQUE && length <= word + 1; length++) {
                if (!endsElsewhere(word, length)) {
                    return length;
                }
            }
            return NONE;
        }

        private boolean endsElsewhere(int word, int length) {
            for (int other = length - 1; other < words; other++) {
                if (other != word && sameEnding(word, other, length)) {
                    return true;
                }
            }
            return false;
        }

        private boolean sameEnding(int word, int other, int length) {
            for (int i = 0; i < length; i++) {
                if (at(letters, word - i) != at(letters, other - i)) {
                    return false;
                }
            }
            return true;
        }
    }

    /** Pairs of a time and a position, the oldest one first. */
    private static final class Trail {
        int pairs;
        final int[] times = new int[MOST_PAIRS];
        final int[] positions = new int[MOST_PAIRS];

        void become(Trail other) {
            pairs = other.pairs;
            copyRow(other.times, times);
            copyRow(other.positions, positions);
        }

        void empty() {
            pairs = 0;
        }

        /** Old pairs go before the new one comes, so that there is always space for it. */
        void add(int time, int position, int memory) {
            int left = 0;
            for (int i = 0; i < pairs; i++) {
                int past = at(times, i);
                if (past >= time - memory && past != time) {
                    put(times, left, past);
                    put(positions, left, at(positions, i));
                    left++;
                }
            }
            pairs = left;
            if (pairs < MOST_PAIRS) {
                put(times, pairs, time);
                put(positions, pairs, position);
                pairs++;
            }
        }

        /** The speed by the pairs, or the given one if they are too few. */
        int speedOr(int otherwise) {
            int ticks = at(times, pairs - 1) - at(times, 0);
            if (pairs < 2 || ticks < 1) {
                return otherwise;
            }
            return 100 * (at(positions, pairs - 1) - at(positions, 0)) / ticks;
        }
    }

    /** Everything that a change records and an image keeps. */
    private static final class State {
        final int[] settings = new int[SETTINGS];
        final Script script = new Script();
        final Trail trail = new Trail();
        final int[] kept = new int[MOST_KEPT];
        int keptCount;
        int position;
        int speed;
        int time;
        int heardTime;
        int top;
        int skips;
        int repeats;
        int misses;
        int jerks;
        int overruns;

        void become(State other) {
            copyRow(other.settings, settings);
            script.become(other.script);
            trail.become(other.trail);
            copyRow(other.kept, kept);
            keptCount = other.keptCount;
            position = other.position;
            speed = other.speed;
            time = other.time;
            heardTime = other.heardTime;
            top = other.top;
            skips = other.skips;
            repeats = other.repeats;
            misses = other.misses;
            jerks = other.jerks;
            overruns = other.overruns;
        }

        /** Everything but the settings is as at first, with this script. */
        void begin(Script begun) {
            script.become(begun);
            script.lay(at(settings, WIDTH));
            trail.empty();
            keptCount = 0;
            position = 0;
            speed = 0;
            time = 0;
            heardTime = 0;
            top = 0;
            skips = 0;
            repeats = 0;
            misses = 0;
            jerks = 0;
            overruns = 0;
        }

        void change(int setting, int value) {
            put(settings, setting, value);
            script.lay(at(settings, WIDTH));
            top = limited(top, 0, highestTop());
        }

        void jump(int word) {
            keptCount = 0;
            trail.empty();
            heardTime = time;
            position = word;
            script.setCuesAround(word);
        }

        // ---- following

        /** Hears a word; answers whether a candidate was accepted. */
        boolean listen(int letter) {
            int candidate = bestCandidate(letter);
            boolean accepted = candidate != NONE && accepts(candidate);
            if (accepted) {
                follow(candidate);
            } else {
                misses++;
            }
            keepHeard(letter);
            return accepted;
        }

        /** The best candidate for a letter, or NONE. */
        int bestCandidate(int letter) {
            int best = NONE;
            int from = Math.max(0, position - at(settings, BACK));
            int to = Math.min(script.words - 1, position + at(settings, AHEAD));
            for (int word = from; word <= to; word++) {
                if (at(script.letters, word) == letter && (best == NONE || isBetter(word, best))) {
                    best = word;
                }
            }
            return best;
        }

        /** Whether a word is a better candidate than another one that stands before it. */
        private boolean isBetter(int word, int best) {
            int points = points(word);
            int bestPoints = points(best);
            if (points != bestPoints) {
                return points > bestPoints;
            }
            return Math.abs(word - position) < Math.abs(best - position);
        }

        /** The score of a word as a candidate. */
        int points(int word) {
            int points = 1;
            while (points < MOST_SCORE && points <= keptCount && points <= word
                    && at(kept, points - 1) == at(script.letters, word - points)) {
                points++;
            }
            return points;
        }

        boolean accepts(int candidate) {
            return candidate == position || points(candidate) >= at(settings, NEED);
        }

        private void follow(int word) {
            if (word > position) {
                skips++;
                trail.empty();
            } else if (word < position) {
                repeats++;
                trail.empty();
            }
            position = word + 1;
            heardTime = time;
            trail.add(time, position, at(settings, MEMORY));
            speed = trail.speedOr(speed);
            overruns += script.passWaitingBefore(word);
        }

        private void keepHeard(int letter) {
            for (int i = MOST_KEPT - 1; i > 0; i--) {
                put(kept, i, at(kept, i - 1));
            }
            put(kept, 0, letter);
            keptCount = Math.min(keptCount + 1, MOST_KEPT);
        }

        /** Hears the script's own words from the position on, each after so many ticks. */
        void readToEnd(int pace) {
            int start = position;
            for (int word = start; word < script.words; word++) {
                passTime(pace);
                listen(at(script.letters, word));
                if (script.nextCue() == word) {
                    script.freeCue(word);
                }
            }
        }

        // ---- the estimate

        int estimatedWord() {
            return estimate(0, holdingWord());
        }

        /** The word that the estimate does not go beyond, whatever the time. */
        private int holdingWord() {
            int cue = script.nextCue();
            return cue == NONE ? script.words - 1 : cue;
        }

        private int estimate(int ticks, int hold) {
            long elapsed = (long) time - heardTime + ticks + at(settings, LAG);
            long word = (100L * position + speed * elapsed) / 100;
            return (int) Math.max(0L, Math.min(word, (long) hold));
        }

        /** After how many ticks the estimated word is a word or a greater one, or NONE. */
        int ticksTo(int word) {
            int hold = holdingWord();
            for (int ticks = 0; ticks <= MOST_REACHED; ticks++) {
                if (estimate(ticks, hold) >= word) {
                    return ticks;
                }
            }
            return NONE;
        }

        // ---- scrolling

        int highestTop() {
            return Math.max(0, 100 * (script.rows - at(settings, HEIGHT)));
        }

        int desiredTop(int word) {
            int focus = Math.min(at(settings, FOCUS), at(settings, HEIGHT) - 1);
            return limited(100 * (at(script.rowOf, word) - focus), 0, highestTop());
        }

        boolean shows(int row) {
            return 100 * row >= top && 100 * row <= top + lowestShown();
        }

        /** How far below the top the last row that is wholly shown can begin. */
        private int lowestShown() {
            return 100 * (at(settings, HEIGHT) - 1);
        }

        /** Does ticks; answers the number of jerks in them. */
        int passTime(int ticks) {
            int before = jerks;
            int hold = holdingWord();
            for (int i = 0; i < ticks; i++) {
                time++;
                scrollTo(estimate(0, hold));
            }
            return jerks - before;
        }

        private void scrollTo(int word) {
            int limit = at(settings, LIMIT);
            top += limited(desiredTop(word) - top, -limit, limit);
            int row = at(script.rowOf, word);
            if (!shows(row)) {
                top = limited(top, 100 * row - lowestShown(), 100 * row);
                jerks++;
            }
        }
    }
}
