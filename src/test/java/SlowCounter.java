import java.util.ArrayList;
import java.util.List;
import java.util.regex.Matcher;
import java.util.regex.Pattern;

/**
 * The document's words, done as slowly and as literally as they stand: each turning is an entry of its own in a list,
 * each test runs nanosecond by nanosecond, the fault comes from a pattern. It shares no code with the program.
 */
final class SlowCounter {
    private static final Pattern TEXT;

    static {
        String number = "(0|[1-9][0-9]?)";
        String order = "(c" + number + "?|t" + number + "|d[0-9]=" + number + "|r|w)";
        TEXT = Pattern.compile(order + "(;" + order + ")*");
    }

    private static final class State {
        int stages = 4;
        int hold = 2;
        int[] delays = {3, 3, 3, 3, 3};
        int[] outputs = new int[5];
        int[] turned = new int[5];
        int time = 0;
        long clocks = 0;
        int lastClock = -1;
        int latch = 0;
        /** Each entry is a stage and the time at which it is due, in the order in which they began. */
        List<int[]> onTheirWay = new ArrayList<>();
        /** Each time at which something was done. */
        List<Integer> doneTimes = new ArrayList<>();
        /** Number, time, count, latch. */
        List<int[]> readings = new ArrayList<>();
        /** Number, time, flashed. */
        List<int[]> seen = new ArrayList<>();

        State copy() {
            State s = new State();
            s.stages = stages;
            s.hold = hold;
            s.delays = delays.clone();
            s.outputs = outputs.clone();
            s.turned = turned.clone();
            s.time = time;
            s.clocks = clocks;
            s.lastClock = lastClock;
            s.latch = latch;
            s.onTheirWay = new ArrayList<>(onTheirWay);
            s.doneTimes = new ArrayList<>(doneTimes);
            s.readings = new ArrayList<>(readings);
            s.seen = new ArrayList<>(seen);
            return s;
        }

        int shows() {
            int number = 0;
            for (int k = 0; k < stages; k++) {
                number += outputs[k] << k;
            }
            return number;
        }

        int theCount() {
            return (int) (clocks % (1L << stages));
        }

        void begin(int stage) {
            onTheirWay.add(new int[] {stage, time + delays[stage]});
        }

        int nanosecond() {
            int many = 0;
            for (int k = 0; k < stages; k++) {
                List<int[]> rest = new ArrayList<>();
                List<int[]> dueNow = new ArrayList<>();
                for (int[] turning : onTheirWay) {
                    (turning[0] == k && turning[1] == time ? dueNow : rest).add(turning);
                }
                onTheirWay = rest;
                for (int i = 0; i < dueNow.size(); i++) {
                    many++;
                    turned[k]++;
                    outputs[k] = 1 - outputs[k];
                    if (outputs[k] == 0 && k + 1 < stages) {
                        begin(k + 1);
                    }
                }
            }
            if (many > 0) {
                doneTimes.add(time);
                seen.add(new int[] {shows(), time, shows() != theCount() ? 1 : 0});
            }
            if (latch == 1 && onTheirWay.isEmpty() && stillInHold()) {
                latch = 0;
                readings.add(new int[] {shows(), time, theCount(), 1});
            }
            time++;
            return many;
        }

        boolean stillInHold() {
            for (int ago = 0; ago < hold; ago++) {
                if (doneTimes.contains(time - ago)) {
                    return false;
                }
            }
            return true;
        }
    }

    private State s = new State();
    private final List<State> history = new ArrayList<>();
    private final State[] slots = new State[2];
    private String pad = "";

    private void record(State before) {
        history.add(before);
        if (history.size() > 6) {
            history.remove(0);
        }
    }

    private int changed(State before, int answer) {
        if (answer >= 0) {
            record(before);
        }
        return answer;
    }

    int set(int setting, int value) {
        if (setting != 0 && setting != 1) return -2;
        if (setting == 0 && (value < 1 || value > 5)) return -2;
        if (setting == 1 && (value < 0 || value > 20)) return -2;
        State before = s.copy();
        if (setting == 1) {
            s.hold = value;
            return changed(before, before.hold);
        }
        s = new State();
        s.stages = value;
        s.hold = before.hold;
        s.time = before.time;
        s.delays = before.delays.clone();
        return changed(before, before.stages);
    }

    private int bareDelay(int stage, int delay) {
        if (stage < 0 || stage >= s.stages) return -1;
        if (delay < 1 || delay > 20) return -2;
        int previous = s.delays[stage];
        s.delays[stage] = delay;
        return previous;
    }

    private int bareClock() {
        if (s.lastClock == s.time) return -5;
        s.lastClock = s.time;
        s.clocks++;
        s.begin(0);
        return s.theCount();
    }

    private int barePass(int many) {
        if (many < 1 || many > 99) return -2;
        if (s.time + many > 9999) return -5;
        int turnings = 0;
        for (int i = 0; i < many; i++) {
            turnings += s.nanosecond();
        }
        return turnings;
    }

    private int bareRead() {
        if (s.readings.size() + s.latch >= 99) return -4;
        s.readings.add(new int[] {s.shows(), s.time, s.theCount(), 0});
        return s.shows();
    }

    private int bareLatch() {
        if (s.latch == 1) return -5;
        if (s.readings.size() >= 99) return -4;
        s.latch = 1;
        return 1;
    }

    int delay(int stage, int delay) {
        State before = s.copy();
        return changed(before, bareDelay(stage, delay));
    }

    int clock() {
        State before = s.copy();
        return changed(before, bareClock());
    }

    int pass(int many) {
        State before = s.copy();
        return changed(before, barePass(many));
    }

    int read() {
        State before = s.copy();
        return changed(before, bareRead());
    }

    int latch() {
        State before = s.copy();
        return changed(before, bareLatch());
    }

    int of(int stage, int what) {
        if (stage < 0 || stage >= s.stages) return -1;
        int many = 0;
        int next = -6;
        for (int[] turning : s.onTheirWay) {
            if (turning[0] == stage) {
                many++;
                int ahead = turning[1] - s.time;
                if (next == -6 || ahead < next) next = ahead;
            }
        }
        switch (what) {
            case 0: return s.delays[stage];
            case 1: return s.outputs[stage];
            case 2: return many;
            case 3: return next;
            case 4: return s.turned[stage];
            default: return -2;
        }
    }

    int reading(int reading, int what) {
        if (reading < 0 || reading >= s.readings.size()) return -1;
        if (what < 0 || what > 4) return -2;
        int[] row = s.readings.get(reading);
        return what < 4 ? row[what] : row[0] == row[2] ? 1 : 0;
    }

    private List<Integer> seenOrder() {
        List<Integer> order = new ArrayList<>();
        for (int[] sight : s.seen) {
            if (!order.contains(sight[0])) order.add(sight[0]);
        }
        return order;
    }

    int seen(int rank, int what) {
        List<Integer> order = seenOrder();
        if (rank < 0 || rank >= order.size()) return -1;
        int often = 0;
        int flashes = 0;
        int first = -1;
        for (int[] sight : s.seen) {
            if (sight[0] == order.get(rank)) {
                often++;
                flashes += sight[2];
                if (first < 0) first = sight[1];
            }
        }
        switch (what) {
            case 0: return order.get(rank);
            case 1: return often;
            case 2: return flashes;
            case 3: return first;
            default: return -2;
        }
    }

    int count(int what) {
        int trueOnes = 0;
        for (int[] row : s.readings) {
            if (row[0] == row[2]) trueOnes++;
        }
        int all = 0;
        int flashed = 0;
        for (int[] sight : s.seen) {
            all |= 1 << sight[0];
            if (sight[2] == 1) flashed |= 1 << sight[0];
        }
        int last = s.doneTimes.isEmpty() ? -1 : s.doneTimes.get(s.doneTimes.size() - 1);
        int[] answers = {s.time, s.shows(), s.theCount(), s.onTheirWay.size(), s.readings.size(), trueOnes, all, flashed,
            last < 0 ? s.time : s.time - last - 1, s.latch, s.stages, s.hold, pad.length(), history.size()};
        return what < 0 || what >= answers.length ? -2 : answers[what];
    }

    int stillIn() {
        State t = s.copy();
        int many = 0;
        while (!t.onTheirWay.isEmpty()) {
            t.nanosecond();
            many++;
        }
        return many;
    }

    int showsIn(int many) {
        if (many < 0 || many > 99) return -2;
        State t = s.copy();
        for (int i = 0; i < many; i++) {
            t.nanosecond();
        }
        return t.shows();
    }

    private static int wrongWith(int stages, int[] delays, int gap) {
        State t = new State();
        t.stages = stages;
        t.delays = delays;
        int many = 0;
        for (int i = 0; i < 1 << stages; i++) {
            t.clocks++;
            t.begin(0);
            for (int j = 0; j < gap; j++) {
                t.nanosecond();
            }
            if (t.shows() != t.theCount()) many++;
        }
        return many;
    }

    private static int safeWith(int stages, int[] delays) {
        int safe = -6;
        for (int gap = 50; gap >= 1 && wrongWith(stages, delays, gap) == 0; gap--) {
            safe = gap;
        }
        return safe;
    }

    int wrong(int gap) {
        return gap < 1 || gap > 50 ? -2 : wrongWith(s.stages, s.delays, gap);
    }

    int safeGap() {
        return safeWith(s.stages, s.delays);
    }

    int toBlame(int what) {
        if (what != 0 && what != 1) return -2;
        int best = 99;
        int blamed = -1;
        for (int k = 0; k < s.stages; k++) {
            int[] delays = s.delays.clone();
            delays[k] = 1;
            int safe = safeWith(s.stages, delays);
            if (safe == -6) safe = 51;
            if (safe < best) {
                best = safe;
                blamed = k;
            }
        }
        return what == 0 ? blamed : best;
    }

    int put(long characters) {
        String bytes = String.format("%016x", characters);
        StringBuilder text = new StringBuilder();
        for (int i = 0; i < 16; i += 2) {
            int code = Integer.parseInt(bytes.substring(i, i + 2), 16);
            if (code == 0 && text.length() == 0) continue;
            if (code < 33 || code > 126) return -2;
            text.append((char) code);
        }
        if (text.length() == 0) return -2;
        if (pad.length() + text.length() > 80) return -4;
        pad = pad + text;
        return pad.length();
    }

    int wipe() {
        int length = pad.length();
        pad = "";
        return length;
    }

    int fault() {
        for (int length = 1; length <= pad.length(); length++) {
            Matcher matcher = TEXT.matcher(pad.substring(0, length));
            if (!matcher.matches() && !matcher.hitEnd()) return length - 1;
        }
        return TEXT.matcher(pad).matches() ? -6 : pad.length();
    }

    int carryOut() {
        if (fault() != -6) return -3;
        State before = s.copy();
        int carried = carryAll(pad.split(";"));
        pad = "";
        record(before);
        return carried;
    }

    private int carryAll(String[] orders) {
        int carried = 0;
        for (String order : orders) {
            char letter = order.charAt(0);
            String rest = order.substring(1);
            int many = letter == 'c' && !rest.isEmpty() ? Integer.parseInt(rest) : 1;
            for (int i = 0; i < many; i++) {
                if (carryOne(letter, rest) < 0) return carried;
                carried++;
            }
        }
        return carried;
    }

    private int carryOne(char letter, String rest) {
        switch (letter) {
            case 'c':
                if (rest.isEmpty()) return bareClock();
                State before = s.copy();
                int answer = bareClock();
                if (answer >= 0) answer = barePass(1);
                if (answer < 0) s = before;
                return answer;
            case 't': return barePass(Integer.parseInt(rest));
            case 'd': return bareDelay(rest.charAt(0) - '0', Integer.parseInt(rest.substring(2)));
            case 'r': return bareRead();
            default: return bareLatch();
        }
    }

    int undo() {
        if (history.isEmpty()) return -5;
        s = history.remove(history.size() - 1);
        return history.size();
    }

    int save(int slot) {
        if (slot != 0 && slot != 1) return -2;
        slots[slot] = s.copy();
        return s.theCount();
    }

    int restore(int slot) {
        if (slot != 0 && slot != 1) return -2;
        if (slots[slot] == null) return -5;
        State before = s;
        s = slots[slot].copy();
        record(before);
        return s.theCount();
    }
}
