import java.util.ArrayDeque;
import java.util.ArrayList;
import java.util.Deque;
import java.util.List;
import java.util.TreeMap;

/**
 * The document once more, said as directly as the Java library allows and without regard to cost:
 * nothing is laid out or counted ahead, every answer is worked out when it is asked for.
 */
final class Model {
    static final int BAD = -1, STATE = -2, FULL = -3, NONE = -9;
    private static final int[][] RANGES = {
        {1, 12, 5}, {1, 8, 3}, {0, 7, 1}, {0, 30, 8}, {1, 60, 15}, {1, 4, 2}, {1, 60, 20}, {1, 100, 25}, {0, 10, 2}};

    /** What a change records. */
    private static final class Moment {
        List<String> passages = new ArrayList<>(List.of("a"));
        TreeMap<Integer, Integer> cues = new TreeMap<>();
        int[] settings = new int[9];
        List<Integer> heard = new ArrayList<>();
        TreeMap<Integer, Integer> trail = new TreeMap<>();
        int position, speed, time, heardTime, top, skips, repeats, misses, jerks, overruns;

        Moment copy() {
            Moment m = new Moment();
            m.passages = new ArrayList<>(passages);
            m.cues = new TreeMap<>(cues);
            m.settings = settings.clone();
            m.heard = new ArrayList<>(heard);
            m.trail = new TreeMap<>(trail);
            m.position = position;
            m.speed = speed;
            m.time = time;
            m.heardTime = heardTime;
            m.top = top;
            m.skips = skips;
            m.repeats = repeats;
            m.misses = misses;
            m.jerks = jerks;
            m.overruns = overruns;
            return m;
        }

        String words() {
            return String.join("", passages);
        }

        /** The first word of each row, and behind them the number of words. */
        List<Integer> rowStarts() {
            List<Integer> starts = new ArrayList<>();
            int first = 0;
            for (String passage : passages) {
                for (int i = 0; i < passage.length(); i += settings[0]) {
                    starts.add(first + i);
                }
                first += passage.length();
            }
            starts.add(first);
            return starts;
        }

        int rows() {
            return rowStarts().size() - 1;
        }

        int rowOf(int word) {
            List<Integer> starts = rowStarts();
            int row = 0;
            while (starts.get(row + 1) <= word) {
                row++;
            }
            return row;
        }

        int passageOf(int word) {
            int passage = 0;
            for (int left = word; left >= passages.get(passage).length(); passage++) {
                left -= passages.get(passage).length();
            }
            return passage;
        }

        int nextCue() {
            return cues.entrySet().stream().filter(e -> e.getValue() == 1).map(e -> e.getKey()).findFirst().orElse(NONE);
        }

        int estimated() {
            int least = Math.min((100 * position + speed * (time - heardTime + settings[8])) / 100, words().length() - 1);
            return nextCue() == NONE ? least : Math.min(least, nextCue());
        }

        int most() {
            return rows() < settings[1] ? 0 : 100 * (rows() - settings[1]);
        }

        int desired() {
            int wanted = 100 * (rowOf(estimated()) - Math.min(settings[2], settings[1] - 1));
            return wanted < 0 ? 0 : wanted > most() ? most() : wanted;
        }

        boolean shown(int row) {
            return !(100 * row < top || 100 * row > top + 100 * (settings[1] - 1));
        }

        int score(int word) {
            int same = 0;
            for (int k = 0; k < 3; k++) {
                if (k >= heard.size() || word - 1 - k < 0 || words().charAt(word - 1 - k) != heard.get(k)) {
                    break;
                }
                same++;
            }
            return 1 + same;
        }

        int best(int letter) {
            List<Integer> candidates = new ArrayList<>();
            for (int j = 0; j < words().length(); j++) {
                if (j >= position - settings[3] && j <= position + settings[4] && words().charAt(j) == letter) {
                    candidates.add(j);
                }
            }
            candidates.sort((a, b) -> score(a) != score(b) ? score(b) - score(a)
                : Math.abs(a - position) != Math.abs(b - position) ? Math.abs(a - position) - Math.abs(b - position) : a - b);
            return candidates.isEmpty() ? NONE : candidates.get(0);
        }

        boolean accepted(int j) {
            return j == position || score(j) >= settings[5];
        }

        int hear(int letter) {
            int j = best(letter);
            int answer = NONE;
            if (j == NONE || !accepted(j)) {
                misses++;
            } else {
                if (j != position) {
                    trail.clear();
                }
                skips += j > position ? 1 : 0;
                repeats += j < position ? 1 : 0;
                position = j + 1;
                trail.put(time, position);
                heardTime = time;
                for (int cue : cues.keySet()) {
                    if (cue < position - 1 && cues.get(cue) == 1) {
                        cues.put(cue, 3);
                        overruns++;
                    }
                }
                trail.keySet().removeIf(t -> t < time - settings[6]);
                if (trail.size() >= 2) {
                    speed = 100 * (trail.lastEntry().getValue() - trail.firstEntry().getValue())
                        / (trail.lastKey() - trail.firstKey());
                }
                answer = position;
            }
            heard.add(0, letter);
            if (heard.size() > 4) {
                heard.remove(4);
            }
            return answer;
        }

        void tick() {
            time++;
            int way = desired() - top;
            top += way > settings[7] ? settings[7] : way < -settings[7] ? -settings[7] : way;
            int row = rowOf(estimated());
            if (100 * row < top) {
                top = 100 * row;
                jerks++;
            } else if (100 * row > top + 100 * (settings[1] - 1)) {
                top = 100 * row - 100 * (settings[1] - 1);
                jerks++;
            }
        }
    }

    private String text = "";
    private int faultKind = NONE;
    private int faultPlace = NONE;
    private Moment now = new Moment();
    private final Deque<Moment> history = new ArrayDeque<>();
    private final Moment[] images = new Moment[2];

    Model() {
        for (int s = 0; s < 9; s++) {
            now.settings[s] = RANGES[s][2];
        }
    }

    private void record() {
        history.addLast(now);
        if (history.size() > 8) {
            history.removeFirst();
        }
        now = now.copy();
    }

    private boolean noWord(int word) {
        return word < 0 || word >= now.words().length();
    }

    private static boolean noLetter(int letter) {
        return letter < 'a' || letter > 'z';
    }

    private int firstFault() {
        int words = 0;
        for (int i = 0; i < text.length(); i++) {
            String before = text.substring(0, i);
            String passage = before.substring(before.lastIndexOf('|') + 1);
            String c = text.substring(i, i + 1);
            faultPlace = i;
            if (!c.matches("[a-z/| ]")) {
                return 1;
            }
            if (c.equals("/") && !before.matches(".*[a-z]")) {
                return 2;
            }
            if (c.equals("|") && !passage.matches(".*[a-z].*")) {
                return 3;
            }
            if (c.matches("[a-z]") && ++words == 121) {
                return 4;
            }
        }
        faultPlace = text.length();
        return text.matches("(.*\\|)?[^a-z|]*") ? 5 : 0;
    }

    int load() {
        int kindBefore = faultKind;
        int placeBefore = faultPlace;
        int kind = firstFault();
        if (kind > 0) {
            faultKind = kind;
            return STATE;
        }
        faultKind = kindBefore;
        faultPlace = placeBefore;
        record();
        Moment m = new Moment();
        m.settings = now.settings;
        m.passages.clear();
        for (String passage : text.split("\\|")) {
            m.passages.add(passage.replaceAll("[ /]", ""));
        }
        String plain = text.replaceAll("[ |]", "");
        int word = -1;
        for (char c : plain.toCharArray()) {
            if (c == '/') {
                m.cues.put(word, 1);
            } else {
                word++;
            }
        }
        now = m;
        return now.words().length();
    }

    int set(int s, int value) {
        if (s < 0 || s > 8 || value < RANGES[s][0] || value > RANGES[s][1]) {
            return BAD;
        }
        record();
        int previous = now.settings[s];
        now.settings[s] = value;
        now.top = Math.min(now.top, now.most());
        return previous;
    }

    int hear(int letter) {
        if (noLetter(letter)) {
            return BAD;
        }
        record();
        return now.hear(letter);
    }

    int tick(int n) {
        if (n < 1 || n > 100) {
            return BAD;
        }
        record();
        int before = now.jerks;
        for (int i = 0; i < n; i++) {
            now.tick();
        }
        return now.jerks - before;
    }

    int release() {
        if (now.nextCue() == NONE) {
            return STATE;
        }
        record();
        int cue = now.nextCue();
        now.cues.put(cue, 2);
        return cue;
    }

    int place(int word) {
        if (noWord(word)) {
            return BAD;
        }
        record();
        int previous = now.position;
        now.position = word;
        now.heard.clear();
        now.trail.clear();
        now.heardTime = now.time;
        now.cues.replaceAll((cue, state) -> cue >= word ? 1 : 3);
        return previous;
    }

    int undo() {
        if (history.isEmpty()) {
            return STATE;
        }
        now = history.removeLast();
        return history.size();
    }

    int write(int code) {
        if (code < 32 || code > 126) {
            return BAD;
        }
        if (text.length() == 140) {
            return FULL;
        }
        text += (char) code;
        return text.length();
    }

    int wipe() {
        int length = text.length();
        text = "";
        return length;
    }

    int fault(int what) {
        if (what != 0 && what != 1) {
            return BAD;
        }
        return faultKind == NONE ? NONE : what == 0 ? faultKind : faultPlace;
    }

    int told(int what) {
        if (what < 0 || what > 18) {
            return BAD;
        }
        int[] all = {now.words().length(), now.rows(), now.passages.size(), now.cues.size(), now.time, now.position,
            now.speed, now.estimated(), now.top, now.desired(), now.skips, now.repeats, now.misses, now.jerks,
            now.overruns, now.trail.size(), now.nextCue(), now.heard.size(), history.size()};
        return all[what];
    }

    int setting(int s) {
        return s < 0 || s > 8 ? BAD : now.settings[s];
    }

    int word(int word, int what) {
        if (noWord(word) || what < 0 || what > 4) {
            return BAD;
        }
        int[] all = {now.words().charAt(word), now.rowOf(word), now.passageOf(word), now.cues.getOrDefault(word, 0),
            now.shown(now.rowOf(word)) ? 1 : 0};
        return all[what];
    }

    int row(int row, int what) {
        if (row < 0 || row >= now.rows() || what < 0 || what > 1) {
            return BAD;
        }
        List<Integer> starts = now.rowStarts();
        return what == 0 ? starts.get(row) : starts.get(row + 1) - starts.get(row);
    }

    int heard(int k) {
        return k < 0 ? BAD : k >= now.heard.size() ? NONE : now.heard.get(k);
    }

    int trail(int k, int what) {
        if (k < 0 || what < 0 || what > 1) {
            return BAD;
        }
        if (k >= now.trail.size()) {
            return NONE;
        }
        return new ArrayList<>(what == 0 ? now.trail.keySet() : now.trail.values()).get(k);
    }

    int score(int word) {
        return noWord(word) ? BAD : now.score(word);
    }

    int best(int letter, int what) {
        if (noLetter(letter) || what < 0 || what > 2) {
            return BAD;
        }
        int j = now.best(letter);
        return j == NONE || what == 0 ? j : what == 1 ? now.score(j) : now.accepted(j) ? 1 : 0;
    }

    int unique(int word) {
        if (noWord(word)) {
            return BAD;
        }
        String words = now.words();
        for (int length = 1; length <= Math.min(4, word + 1); length++) {
            String part = words.substring(word + 1 - length, word + 1);
            if (words.indexOf(part) == words.lastIndexOf(part)) {
                return length;
            }
        }
        return NONE;
    }

    float mean() {
        return (float) now.words().length() / (float) now.rows();
    }

    int reached(int word) {
        if (noWord(word)) {
            return BAD;
        }
        Moment m = now.copy();
        for (int ticks = 0; ticks <= 500; ticks++) {
            if (m.estimated() >= word) {
                return ticks;
            }
            m.time++;
        }
        return NONE;
    }

    int rehearse(int pace, int what) {
        if (pace < 1 || pace > 10 || what < 0 || what > 3) {
            return BAD;
        }
        Moment m = now.copy();
        for (int word = now.position; word < now.words().length(); word++) {
            for (int i = 0; i < pace; i++) {
                m.tick();
            }
            m.hear(m.words().charAt(word));
            if (m.nextCue() == word) {
                m.cues.put(word, 2);
            }
        }
        int[] all = {m.jerks - now.jerks, m.skips + m.repeats - now.skips - now.repeats, m.misses - now.misses, m.position};
        return all[what];
    }

    int keep(int i) {
        if (i != 0 && i != 1) {
            return BAD;
        }
        images[i] = now.copy();
        return now.position;
    }

    int back(int i) {
        if (i != 0 && i != 1) {
            return BAD;
        }
        if (images[i] == null) {
            return STATE;
        }
        record();
        now = images[i].copy();
        return now.position;
    }
}
