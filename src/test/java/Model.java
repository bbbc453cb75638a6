import java.util.ArrayDeque;
import java.util.Deque;
import java.util.TreeMap;
import java.util.regex.Matcher;
import java.util.regex.Pattern;

/**
 * The document once more, written apart from the class and as near to its words as can be: whole states are copied,
 * every what-if does the thing on a copy, and the fault of a text is found by asking of each beginning of it whether
 * a good text can begin so.
 */
final class Model {
    private static final String NUMBER = "(0|[1-9][0-9]{0,2})";
    private static final String ORDER = "([sg][0-3]@" + NUMBER + "|w[0-3]\\*" + NUMBER + "|v[0-3]/" + NUMBER + "\\*" + NUMBER
            + "|t" + NUMBER + ")";
    private static final Pattern TEXT = Pattern.compile(ORDER + "(;" + ORDER + ")*");
    private static final int[] LEAST = {0, 0, 0, 0, 0, 1, 0};
    private static final int[] MOST = {999, 99, 9, 60, 60, 20, 60};

    private static final class State {
        int[] settings = {60, 5, 2, 20, 50, 4, 20};
        int[] free = {60, 60, 60, 60};
        int[] stale = new int[4];
        int[] lent = new int[4];
        int[] held = new int[4];
        boolean[] cleaning = new boolean[4];
        int[] written = new int[4];
        int[] sounded = new int[4];
        int[] overruns = new int[4];
        int[] every = {1, 1, 1, 1};
        int[] units = new int[4];
        long[] sum = new long[4];
        // Hour by drive * 1000 + hour: 'o' sold, 'k' kept, 's' spoiled.
        TreeMap<Integer, Character> sold = new TreeMap<>();
        int minute;
        int earned;
        int fined;
        int credits;
        int used;

        State copy() {
            State s = new State();
            s.settings = settings.clone();
            s.free = free.clone();
            s.stale = stale.clone();
            s.lent = lent.clone();
            s.held = held.clone();
            s.cleaning = cleaning.clone();
            s.written = written.clone();
            s.sounded = sounded.clone();
            s.overruns = overruns.clone();
            s.every = every.clone();
            s.units = units.clone();
            s.sum = sum.clone();
            s.sold = new TreeMap<>(sold);
            s.minute = minute;
            s.earned = earned;
            s.fined = fined;
            s.credits = credits;
            s.used = used;
            return s;
        }

        boolean quiet(int d) {
            return sold.containsKey(d * 1000 + minute / 60);
        }

        void aMinute() {
            for (int d = 0; d < 4; d++) {
                int twin = new int[] {1, 0, 3, 2}[d];
                // 1
                if (minute % 60 == 0) {
                    int ahead = d * 1000 + minute / 60 - 1;
                    if (minute >= 60 && sold.containsKey(ahead) && sold.get(ahead) != 's') {
                        sold.put(ahead, 'k');
                        credits = credits + settings[2];
                    }
                    if (quiet(d)) {
                        earned = earned + settings[0];
                    }
                }
                // 2
                if (minute % every[d] == 0) {
                    held[d] = held[d] + units[d];
                }
                // 3
                if (!quiet(d)) {
                    while (lent[twin] > 0 && free[d] > 0) {
                        lent[twin]--;
                        stale[twin]++;
                        free[d]--;
                        stale[d]++;
                        written[d]++;
                    }
                }
                // 4
                while (held[d] > 0 && free[d] > 0) {
                    held[d]--;
                    free[d]--;
                    stale[d]++;
                    written[d]++;
                }
                // 5
                while (quiet(d) && held[d] > settings[6] && !quiet(twin) && free[twin] > 0) {
                    held[d]--;
                    free[twin]--;
                    lent[twin]++;
                }
                // 6
                boolean wants;
                if (quiet(d)) {
                    wants = held[d] > settings[6];
                } else {
                    wants = cleaning[d] || free[d] < settings[3];
                }
                boolean sounds = false;
                for (int i = 0; wants && i < settings[5] && stale[d] > 0; i++) {
                    stale[d]--;
                    free[d]++;
                    sounds = true;
                }
                if (sounds) {
                    sounded[d]++;
                }
                if (sounds && quiet(d)) {
                    overruns[d]++;
                    sold.put(d * 1000 + minute / 60, 's');
                    if (credits > 0) {
                        credits--;
                        used++;
                    } else {
                        fined = fined + settings[1];
                    }
                }
                cleaning[d] = sounds && !quiet(d) && free[d] < settings[4] && stale[d] > 0;
                sum[d] += held[d];
            }
            minute++;
        }

        int hours(int d, String kinds) {
            int n = 0;
            for (char kind : sold.subMap(d * 1000, d * 1000 + 100).values()) {
                n += kinds.indexOf(kind) >= 0 ? 1 : 0;
            }
            return n;
        }

        int allOverruns() {
            return overruns[0] + overruns[1] + overruns[2] + overruns[3];
        }

        int set(int setting, int value) {
            if (setting < 0 || setting > 6 || value < LEAST[setting] || value > MOST[setting]) {
                return -2;
            }
            int before = settings[setting];
            settings[setting] = value;
            return before;
        }

        int stream(int d, int every, int units) {
            if (d < 0 || d > 3) {
                return -1;
            }
            if (every < 1 || every > 60 || units < 0 || units > 20) {
                return -2;
            }
            int before = this.units[d];
            this.every[d] = every;
            this.units[d] = units;
            return before;
        }

        int write(int d, int units) {
            if (d < 0 || d > 3) {
                return -1;
            }
            if (units < 1 || units > 200) {
                return -2;
            }
            if (held[d] + units > 9999) {
                return -4;
            }
            held[d] += units;
            return held[d];
        }

        int sell(int d, int hour) {
            if (d < 0 || d > 3) {
                return -1;
            }
            if (hour < 0 || hour > 99) {
                return -2;
            }
            if (hour <= minute / 60 || sold.containsKey(d * 1000 + hour)) {
                return -5;
            }
            sold.put(d * 1000 + hour, 'o');
            return hours(d, "oks");
        }

        int giveBack(int d, int hour) {
            if (d < 0 || d > 3) {
                return -1;
            }
            if (hour < 0 || hour > 99) {
                return -2;
            }
            if (hour <= minute / 60 || !sold.containsKey(d * 1000 + hour)) {
                return -5;
            }
            sold.remove(d * 1000 + hour);
            return hours(d, "oks");
        }

        int pass(int minutes) {
            if (minutes < 1 || minutes > 600) {
                return -2;
            }
            for (int i = 0; i < minutes; i++) {
                aMinute();
            }
            return minute;
        }
    }

    private State state = new State();
    private final Deque<State> history = new ArrayDeque<>();
    private final State[] slots = new State[2];
    private String pad = "";

    private int change(State before, int answer) {
        if (answer >= 0) {
            history.addLast(before);
            if (history.size() > 6) {
                history.removeFirst();
            }
        }
        return answer;
    }

    int set(int setting, int value) {
        return change(state.copy(), state.set(setting, value));
    }

    int stream(int d, int every, int units) {
        return change(state.copy(), state.stream(d, every, units));
    }

    int write(int d, int units) {
        return change(state.copy(), state.write(d, units));
    }

    int sell(int d, int hour) {
        return change(state.copy(), state.sell(d, hour));
    }

    int giveBack(int d, int hour) {
        return change(state.copy(), state.giveBack(d, hour));
    }

    int pass(int minutes) {
        return change(state.copy(), state.pass(minutes));
    }

    int ofDrive(int d, int what) {
        if (d < 0 || d > 3) {
            return -1;
        }
        if (what < 0 || what > 13) {
            return -2;
        }
        return new int[] {state.free[d], state.stale[d], state.lent[d], state.held[d], state.quiet(d) ? 1 : 0,
            state.cleaning[d] ? 1 : 0, state.written[d], state.sounded[d], state.overruns[d], state.hours(d, "oks"),
            state.hours(d, "k"), state.hours(d, "s"), state.every[d], state.units[d]}[what];
    }

    int hour(int d, int hour) {
        if (d < 0 || d > 3) {
            return -1;
        }
        if (hour < 0 || hour > 99) {
            return -2;
        }
        return ".oks".indexOf(state.sold.getOrDefault(d * 1000 + hour, '.'));
    }

    int streak(int d) {
        if (d < 0 || d > 3) {
            return -1;
        }
        int n = 0;
        for (char kind : state.sold.subMap(d * 1000, true, d * 1000 + 99, true).descendingMap().values()) {
            if (kind == 's') {
                break;
            }
            n += kind == 'k' ? 1 : 0;
        }
        return n;
    }

    int share(int d) {
        if (d < 0 || d > 3) {
            return -1;
        }
        if (state.hours(d, "ks") == 0) {
            return -6;
        }
        return Float.floatToIntBits((float) ((double) state.hours(d, "k") / state.hours(d, "ks")));
    }

    long mean(int d) {
        if (d < 0 || d > 3) {
            return -1;
        }
        return state.minute == 0 ? 0 : Double.doubleToLongBits((double) state.sum[d] / state.minute);
    }

    int count(int what) {
        if (what < 0 || what > 14) {
            return -2;
        }
        int[] s = state.settings;
        return new int[] {state.minute, state.minute / 60, state.earned, state.fined, state.credits, state.used,
            s[0], s[1], s[2], s[3], s[4], s[5], s[6], pad.length(), history.size()}[what];
    }

    private int wrongQuestion(int d, int minutes) {
        return d < 0 || d > 3 ? -1 : minutes < 1 || minutes > 600 ? -2 : 0;
    }

    int loudIn(int d, int minutes) {
        State s = state.copy();
        s.pass(minutes);
        return wrongQuestion(d, minutes) != 0 ? wrongQuestion(d, minutes) : s.overruns[d] - state.overruns[d];
    }

    int freeIn(int d, int minutes) {
        State s = state.copy();
        s.pass(minutes);
        return wrongQuestion(d, minutes) != 0 ? wrongQuestion(d, minutes) : s.free[d];
    }

    int mostHeld(int d, int minutes) {
        if (wrongQuestion(d, minutes) != 0) {
            return wrongQuestion(d, minutes);
        }
        State s = state.copy();
        int most = 0;
        for (int i = 0; i < minutes; i++) {
            s.aMinute();
            most = Math.max(most, s.held[d]);
        }
        return most;
    }

    int firstSafe(int d) {
        if (d < 0 || d > 3) {
            return -1;
        }
        for (int i = 1; i <= 24; i++) {
            int hour = state.minute / 60 + i;
            State s = state.copy();
            if (s.sell(d, hour) < 0) {
                continue;
            }
            while (s.minute < hour * 60) {
                s.aMinute();
            }
            int before = s.allOverruns();
            s.pass(60);
            if (s.allOverruns() == before) {
                return hour;
            }
        }
        return -6;
    }

    int leastRoom(int hours) {
        if (hours < 1 || hours > 10) {
            return -2;
        }
        for (int room = 0; room <= 60; room++) {
            State s = state.copy();
            s.settings[6] = room;
            s.pass(hours * 60);
            if (s.allOverruns() == state.allOverruns()) {
                return room;
            }
        }
        return -6;
    }

    int put(long characters) {
        StringBuilder text = new StringBuilder();
        boolean end = false;
        boolean bad = false;
        for (int i = 0; i < 64; i += 8) {
            int code = (int) (characters >> i & 255);
            if (code == 0) {
                end = true;
            } else {
                bad |= end || code < 33 || code > 126;
                text.insert(0, (char) code);
            }
        }
        if (bad || text.length() == 0) {
            return -2;
        }
        if (pad.length() + text.length() > 80) {
            return -4;
        }
        pad += text;
        return pad.length();
    }

    int wipe() {
        int length = pad.length();
        pad = "";
        return length;
    }

    int fault() {
        for (int i = 1; i <= pad.length(); i++) {
            Matcher m = TEXT.matcher(pad.substring(0, i));
            if (!m.matches() && !m.hitEnd()) {
                return i - 1;
            }
        }
        return TEXT.matcher(pad).matches() ? -6 : pad.length();
    }

    int carryOut() {
        if (!TEXT.matcher(pad).matches()) {
            return -3;
        }
        State before = state.copy();
        int done = 0;
        for (String order : pad.split(";")) {
            if (carryOut(order) < 0) {
                break;
            }
            done++;
        }
        pad = "";
        return change(before, done);
    }

    private int carryOut(String order) {
        String[] parts = order.substring(1).split("[@*/]");
        int[] n = new int[3];
        for (int i = 0; i < parts.length; i++) {
            n[i] = Integer.parseInt(parts[i]);
        }
        switch (order.charAt(0)) {
            case 's': return state.sell(n[0], n[1]);
            case 'g': return state.giveBack(n[0], n[1]);
            case 'w': return state.write(n[0], n[1]);
            case 'v': return state.stream(n[0], n[1], n[2]);
            default: return state.pass(n[0]);
        }
    }

    int undo() {
        if (history.isEmpty()) {
            return -5;
        }
        state = history.removeLast();
        return history.size();
    }

    int save(int slot) {
        if (slot < 0 || slot > 1) {
            return -2;
        }
        slots[slot] = state.copy();
        return state.minute;
    }

    int restore(int slot) {
        if (slot < 0 || slot > 1) {
            return -2;
        }
        if (slots[slot] == null) {
            return -5;
        }
        State before = state.copy();
        state = slots[slot].copy();
        return change(before, state.minute);
    }
}
