import java.util.Arrays;

/** A ripple counter that is read by gates and latches; ../shared/DOC.md says what each call answers. */
public final class RippleCounts {
    public static final int NO_SUCH = -1, BAD_VALUE = -2, BAD_TEXT = -3, TOO_MANY = -4, NOT_POSSIBLE = -5, NONE = -6;
    public static final int STAGES = 0, HOLD = 1;

    private static final int MAX_STAGES = 5;
    private static final int FIRST_STAGES = 4;
    private static final int MAX_HOLD = 20;
    private static final int FIRST_HOLD = 2;
    private static final int MAX_DELAY = 20;
    private static final int FIRST_DELAY = 3;
    private static final int MAX_TIME = 9999;
    private static final int MAX_MANY = 99;
    private static final int MAX_READINGS = 99;
    private static final int MAX_GAP = 50;
    private static final int MAX_PAD = 80;
    private static final int MAX_UNDO = 6;
    private static final int SLOTS = 2;
    private static final int NUMBERS = 1 << MAX_STAGES;

    private final Counter now = new Counter();
    private final History history = new History();
    private final Counter[] slots = new Counter[SLOTS];
    private final boolean[] slotUsed = new boolean[SLOTS];
    private final Wave trial = new Wave();
    private final Pad pad = new Pad();

    public RippleCounts() {
        for (int slot = 0; slot < SLOTS; slot++) {
            slots[slot] = new Counter();
        }
    }

    // ---- changes

    public int set(int setting, int value) {
        history.prepare(now);
        return history.settle(now.change(setting, value));
    }

    public int delay(int stage, int delay) {
        history.prepare(now);
        return history.settle(now.changeDelay(stage, delay));
    }

    public int clock() {
        history.prepare(now);
        return history.settle(now.takeClock());
    }

    public int pass(int many) {
        history.prepare(now);
        return history.settle(now.letPass(many));
    }

    public int read() {
        history.prepare(now);
        return history.settle(now.readGate());
    }

    public int latch() {
        history.prepare(now);
        return history.settle(now.startLatch());
    }

    // ---- what there is

    public int of(int stage, int what) {
        Wave wave = now.wave;
        if (!wave.hasStage(stage)) {
            return NO_SUCH;
        }
        switch (what) {
            case 0: return wave.delays[stage];
            case 1: return wave.output(stage);
            case 2: return wave.onTheirWayIn(stage);
            case 3: return wave.untilNext(stage);
            case 4: return wave.done[stage];
            default: return BAD_VALUE;
        }
    }

    public int reading(int reading, int what) {
        return now.readings.tell(reading, what);
    }

    public int seen(int rank, int what) {
        return now.sightings.tell(rank, what);
    }

    public int count(int what) {
        switch (what) {
            case 0: return now.wave.time;
            case 1: return now.wave.shows;
            case 2: return now.clocks;
            case 3: return now.wave.onTheirWay;
            case 4: return now.readings.size;
            case 5: return now.readings.trueOnes();
            case 6: return now.sightings.allNumbers();
            case 7: return now.sightings.flashedNumbers();
            case 8: return now.stillFor();
            case 9: return now.latchWaits ? 1 : 0;
            case 10: return now.wave.stages;
            case 11: return now.hold;
            case 12: return pad.length;
            case 13: return history.kept;
            default: return BAD_VALUE;
        }
    }

    // ---- what if; nothing changes (the bound of the time does not matter)

    public int stillIn() {
        trial.copyFrom(now.wave);
        int passed = 0;
        // a turning is due at most MAX_DELAY later, and at most MAX_STAGES of them follow one another
        while (trial.onTheirWay > 0 && passed <= MAX_STAGES * MAX_DELAY) {
            trial.nanosecond();
            passed++;
        }
        return passed;
    }

    public int showsIn(int many) {
        if (many < 0 || many > MAX_MANY) {
            return BAD_VALUE;
        }
        trial.copyFrom(now.wave);
        for (int passed = 0; passed < many; passed++) {
            trial.nanosecond();
        }
        return trial.shows;
    }

    public int wrong(int gap) {
        if (gap < 1 || gap > MAX_GAP) {
            return BAD_VALUE;
        }
        return now.wave.wrongReadings(gap);
    }

    public int safeGap() {
        int gap = gapAbove(now.wave.throughAll());
        return gap > MAX_GAP ? NONE : gap;
    }

    public int toBlame(int what) {
        if (what != 0 && what != 1) {
            return BAD_VALUE;
        }
        Wave wave = now.wave;
        int blamed = 0;
        int least = gapIfFast(wave, 0);
        for (int stage = 1; stage < wave.stages; stage++) {
            int gap = gapIfFast(wave, stage);
            if (gap < least) {
                blamed = stage;
                least = gap;
            }
        }
        return what == 0 ? blamed : least;
    }

    // ---- texts

    public int put(long characters) {
        return pad.append(characters);
    }

    public int wipe() {
        return pad.clear();
    }

    public int fault() {
        return pad.firstFault();
    }

    public int carryOut() {
        if (pad.firstFault() != NONE) {
            return BAD_TEXT;
        }
        history.prepare(now);
        int carried = carryAll();
        pad.clear();
        return history.settle(carried);
    }

    // ---- undo, saving

    public int undo() {
        return history.takeBack(now);
    }

    public int save(int slot) {
        if (slot < 0 || slot >= SLOTS) {
            return BAD_VALUE;
        }
        slots[slot].copyFrom(now);
        slotUsed[slot] = true;
        return now.clocks;
    }

    public int restore(int slot) {
        if (slot < 0 || slot >= SLOTS) {
            return BAD_VALUE;
        }
        if (!slotUsed[slot]) {
            return NOT_POSSIBLE;
        }
        history.prepare(now);
        now.copyFrom(slots[slot]);
        return history.settle(now.clocks);
    }

    // ---- what the face rests on

    /**
     * The least safe gap, MAX_GAP + 1 if there is none. A test has no wrong reading exactly if a gap is longer
     * than the way through all stages: with a shorter one, the highest stage still shows 0 when it is to turn
     * to 1 for the first time; with a longer one, each clock is through before it is read.
     */
    private static int gapAbove(int through) {
        return Math.min(through, MAX_GAP) + 1;
    }

    private static int gapIfFast(Wave wave, int stage) {
        return gapAbove(wave.throughAll() - wave.delays[stage] + 1);
    }

    /** Carries the orders of a pad without fault out, up to the first error, and tells how many. */
    private int carryAll() {
        int carried = 0;
        for (int at = 0; at < pad.length; at++) {
            int wanted = pad.ordersAt(at);
            for (int order = 0; order < wanted; order++) {
                if (carryOne(at) < 0) {
                    return carried;
                }
                carried++;
            }
        }
        return carried;
    }

    private int carryOne(int at) {
        switch (pad.signAt(at)) {
            case 'c': return pad.isDigitAt(at + 1) ? now.clockAndPass() : now.takeClock();
            case 't': return now.letPass(pad.numberAt(at + 1));
            case 'd': return now.changeDelay(pad.digitAt(at + 1), pad.numberAt(at + 3));
            case 'r': return now.readGate();
            case 'w': return now.startLatch();
            default: return BAD_TEXT;
        }
    }

    /** The stages, and the turnings that are on their way through them. */
    private static final class Wave {
        /** The times from now to MAX_DELAY later: no two of them share a place. */
        private static final int RING = MAX_DELAY + 1;

        int time;
        int stages = FIRST_STAGES;
        int shows;
        int onTheirWay;
        final int[] delays = new int[MAX_STAGES];
        final int[] done = new int[MAX_STAGES];
        /** How many turnings of a stage are due at a time; those of one time are all alike, so no order is kept. */
        final int[] due = new int[MAX_STAGES * RING];

        Wave() {
            Arrays.fill(delays, FIRST_DELAY);
        }

        void copyFrom(Wave other) {
            time = other.time;
            stages = other.stages;
            shows = other.shows;
            onTheirWay = other.onTheirWay;
            System.arraycopy(other.delays, 0, delays, 0, MAX_STAGES);
            System.arraycopy(other.done, 0, done, 0, MAX_STAGES);
            System.arraycopy(other.due, 0, due, 0, MAX_STAGES * RING);
        }

        void beginAnew(int newStages) {
            stages = newStages;
            shows = 0;
            onTheirWay = 0;
            Arrays.fill(done, 0);
            Arrays.fill(due, 0);
        }

        boolean hasStage(int stage) {
            return stage >= 0 && stage < stages;
        }

        int output(int stage) {
            return shows >> stage & 1;
        }

        void begin(int stage, int turnings) {
            due[stage * RING + (time + delays[stage]) % RING] += turnings;
            onTheirWay += turnings;
        }

        /** Does what is due now, and tells how many turnings that were; the time stays. */
        int turnDue() {
            int turnings = 0;
            for (int stage = 0; stage < stages; stage++) {
                int place = stage * RING + time % RING;
                int many = due[place];
                if (many > 0) {
                    due[place] = 0;
                    onTheirWay -= many;
                    turnings += many;
                    int falls = turnOver(stage, many);
                    if (stage + 1 < stages) {
                        begin(stage + 1, falls);
                    }
                }
            }
            return turnings;
        }

        void nanosecond() {
            turnDue();
            time++;
        }

        int onTheirWayIn(int stage) {
            int sum = 0;
            for (int place = 0; place < RING; place++) {
                sum += due[stage * RING + place];
            }
            return sum;
        }

        int untilNext(int stage) {
            for (int ahead = 0; ahead < RING; ahead++) {
                if (due[stage * RING + (time + ahead) % RING] > 0) {
                    return ahead;
                }
            }
            return NONE;
        }

        int throughAll() {
            int sum = 0;
            for (int stage = 0; stage < stages; stage++) {
                sum += delays[stage];
            }
            return sum;
        }

        int wrongReadings(int gap) {
            int wrongOnes = 0;
            for (int came = 1; came <= 1 << stages; came++) {
                if (!readsTrue(came, gap)) {
                    wrongOnes++;
                }
            }
            return wrongOnes;
        }

        /**
         * Whether the test's reading after so many clocks is true. While the delays stay, a stage lags behind
         * the clocks by the delays up to it, so that the latest through / gap clocks have not reached it yet.
         */
        private boolean readsTrue(int came, int gap) {
            int through = 0;
            for (int stage = 0; stage < stages; stage++) {
                through += delays[stage];
                int reached = Math.max(0, came - through / gap);
                if (((reached ^ came) >> stage & 1) != 0) {
                    return false;
                }
            }
            return true;
        }

        /** Turns an output over so many times, and tells how often it fell: each fall ends a rise, old or new. */
        private int turnOver(int stage, int turnings) {
            int changes = (shows >> stage & 1) + turnings;
            shows = shows & ~(1 << stage) | (changes & 1) << stage;
            done[stage] += turnings;
            return changes / 2;
        }
    }

    /** Everything that is saved and undone. */
    private static final class Counter {
        private static final int NEVER = -1;

        final Wave wave = new Wave();
        final Readings readings = new Readings();
        final Sightings sightings = new Sightings();
        int hold = FIRST_HOLD;
        int clocks;
        int lastClock = NEVER;
        int lastDone = NEVER;
        boolean latchWaits;

        void copyFrom(Counter other) {
            wave.copyFrom(other.wave);
            readings.copyFrom(other.readings);
            sightings.copyFrom(other.sightings);
            hold = other.hold;
            clocks = other.clocks;
            lastClock = other.lastClock;
            lastDone = other.lastDone;
            latchWaits = other.latchWaits;
        }

        int change(int setting, int value) {
            if (setting == STAGES) {
                return changeStages(value);
            }
            return setting == HOLD ? changeHold(value) : BAD_VALUE;
        }

        int changeDelay(int stage, int value) {
            if (!wave.hasStage(stage)) {
                return NO_SUCH;
            }
            if (value < 1 || value > MAX_DELAY) {
                return BAD_VALUE;
            }
            int previous = wave.delays[stage];
            wave.delays[stage] = value;
            return previous;
        }

        int takeClock() {
            if (lastClock == wave.time) {
                return NOT_POSSIBLE;
            }
            lastClock = wave.time;
            clocks = clocks + 1 & (1 << wave.stages) - 1;
            wave.begin(0, 1);
            return clocks;
        }

        int letPass(int many) {
            if (many < 1 || many > MAX_MANY) {
                return BAD_VALUE;
            }
            if (wave.time + many > MAX_TIME) {
                return NOT_POSSIBLE;
            }
            int turnings = 0;
            for (int passed = 0; passed < many; passed++) {
                turnings += nanosecond();
            }
            return turnings;
        }

        /** The order of a text that is a clock and a nanosecond: both or nothing. */
        int clockAndPass() {
            if (wave.time >= MAX_TIME) {
                return NOT_POSSIBLE;
            }
            int answer = takeClock();
            return answer < 0 ? answer : nanosecond();
        }

        int readGate() {
            if (readings.size + (latchWaits ? 1 : 0) >= MAX_READINGS) {
                return TOO_MANY;
            }
            readings.add(wave.shows, wave.time, clocks, false);
            return wave.shows;
        }

        int startLatch() {
            if (latchWaits) {
                return NOT_POSSIBLE;
            }
            if (readings.size >= MAX_READINGS) {
                return TOO_MANY;
            }
            latchWaits = true;
            return 1;
        }

        int stillFor() {
            return lastDone == NEVER ? wave.time : wave.time - lastDone - 1;
        }

        private int changeStages(int value) {
            if (value < 1 || value > MAX_STAGES) {
                return BAD_VALUE;
            }
            int previous = wave.stages;
            wave.beginAnew(value);
            readings.clear();
            sightings.clear();
            clocks = 0;
            lastClock = NEVER;
            lastDone = NEVER;
            latchWaits = false;
            return previous;
        }

        private int changeHold(int value) {
            if (value < 0 || value > MAX_HOLD) {
                return BAD_VALUE;
            }
            int previous = hold;
            hold = value;
            return previous;
        }

        private int nanosecond() {
            int turnings = wave.turnDue();
            if (turnings > 0) {
                lastDone = wave.time;
                sightings.add(wave.shows, wave.time, wave.shows != clocks);
            }
            if (latchWaits && isStill()) {
                latchWaits = false;
                readings.add(wave.shows, wave.time, clocks, true);
            }
            wave.time++;
            return turnings;
        }

        private boolean isStill() {
            return wave.onTheirWay == 0 && (lastDone == NEVER || wave.time - lastDone >= hold);
        }
    }

    /** What gates and latches have read. */
    private static final class Readings {
        int size;
        final int[] numbers = new int[MAX_READINGS];
        final int[] times = new int[MAX_READINGS];
        final int[] counts = new int[MAX_READINGS];
        /** 1 for a latch, 0 for a gate: numbers, so that they can be copied like the rest. */
        final int[] latched = new int[MAX_READINGS];

        void copyFrom(Readings other) {
            size = other.size;
            System.arraycopy(other.numbers, 0, numbers, 0, MAX_READINGS);
            System.arraycopy(other.times, 0, times, 0, MAX_READINGS);
            System.arraycopy(other.counts, 0, counts, 0, MAX_READINGS);
            System.arraycopy(other.latched, 0, latched, 0, MAX_READINGS);
        }

        void clear() {
            size = 0;
        }

        void add(int number, int time, int clocks, boolean byLatch) {
            if (size >= MAX_READINGS) {
                return;
            }
            numbers[size] = number;
            times[size] = time;
            counts[size] = clocks;
            latched[size] = byLatch ? 1 : 0;
            size++;
        }

        int tell(int reading, int what) {
            if (reading < 0 || reading >= size) {
                return NO_SUCH;
            }
            switch (what) {
                case 0: return numbers[reading];
                case 1: return times[reading];
                case 2: return counts[reading];
                case 3: return latched[reading];
                case 4: return isTrue(reading) ? 1 : 0;
                default: return BAD_VALUE;
            }
        }

        int trueOnes() {
            int sum = 0;
            for (int reading = 0; reading < size; reading++) {
                if (isTrue(reading)) {
                    sum++;
                }
            }
            return sum;
        }

        private boolean isTrue(int reading) {
            return numbers[reading] == counts[reading];
        }
    }

    /** The numbers that were seen, in the order in which each was for the first time. */
    private static final class Sightings {
        int size;
        final int[] ranked = new int[NUMBERS];
        final int[] often = new int[NUMBERS];
        final int[] flashes = new int[NUMBERS];
        final int[] firstTimes = new int[NUMBERS];

        void copyFrom(Sightings other) {
            size = other.size;
            System.arraycopy(other.ranked, 0, ranked, 0, NUMBERS);
            System.arraycopy(other.often, 0, often, 0, NUMBERS);
            System.arraycopy(other.flashes, 0, flashes, 0, NUMBERS);
            System.arraycopy(other.firstTimes, 0, firstTimes, 0, NUMBERS);
        }

        void clear() {
            size = 0;
            Arrays.fill(often, 0);
            Arrays.fill(flashes, 0);
        }

        void add(int number, int time, boolean flashed) {
            if (number < 0 || number >= NUMBERS) {
                return;
            }
            if (often[number] == 0 && size < NUMBERS) {
                ranked[size] = number;
                firstTimes[number] = time;
                size++;
            }
            often[number]++;
            if (flashed) {
                flashes[number]++;
            }
        }

        int tell(int rank, int what) {
            if (rank < 0 || rank >= size) {
                return NO_SUCH;
            }
            int number = ranked[rank];
            switch (what) {
                case 0: return number;
                case 1: return often[number];
                case 2: return flashes[number];
                case 3: return firstTimes[number];
                default: return BAD_VALUE;
            }
        }

        int allNumbers() {
            return numbersWith(often);
        }

        int flashedNumbers() {
            return numbersWith(flashes);
        }

        private static int numbersWith(int[] times) {
            int numbers = 0;
            for (int number = 0; number < NUMBERS && number < times.length; number++) {
                if (times[number] > 0) {
                    numbers |= 1 << number;
                }
            }
            return numbers;
        }
    }

    /** The states that undo goes back to, in a ring with one row more than are kept. */
    private static final class History {
        private static final int ROWS = MAX_UNDO + 1;

        int kept;
        private int oldest;
        private final Counter[] rows = new Counter[ROWS];

        History() {
            for (int row = 0; row < ROWS; row++) {
                rows[row] = new Counter();
            }
        }

        /** Puts the state ahead of a change into the spare row: whether it is kept tells the change's answer. */
        void prepare(Counter state) {
            rows[spareRow()].copyFrom(state);
        }

        /** Keeps what was prepared unless the answer is an error, and hands the answer on. */
        int settle(int answer) {
            if (answer < 0) {
                return answer;
            }
            if (kept < MAX_UNDO) {
                kept++;
            } else {
                oldest = (oldest + 1) % ROWS;
            }
            return answer;
        }

        int takeBack(Counter state) {
            if (kept == 0) {
                return NOT_POSSIBLE;
            }
            kept--;
            state.copyFrom(rows[spareRow()]);
            return kept;
        }

        private int spareRow() {
            return (oldest + kept) % ROWS;
        }
    }

    /** The text of orders. */
    private static final class Pad {
        private static final int ORDER = 0, AFTER_C = 1, NUMBER = 2, SECOND_DIGIT = 3, ORDER_ENDS = 4, STAGE = 5,
                EQUALS = 6, WRONG = 7;
        private static final int LOWEST_SIGN = 33;
        private static final int HIGHEST_SIGN = 126;
        private static final int SIGNS_IN_LONG = 8;

        int length;
        private final int[] signs = new int[MAX_PAD];

        int append(long characters) {
            int many = charactersIn(characters);
            if (many < 0) {
                return many;
            }
            if (length + many > MAX_PAD) {
                return TOO_MANY;
            }
            for (int fromEnd = 0; fromEnd < many; fromEnd++) {
                signs[length + many - 1 - fromEnd] = (int) (characters >>> 8 * fromEnd & 255);
            }
            length += many;
            return length;
        }

        int clear() {
            int previous = length;
            length = 0;
            return previous;
        }

        int firstFault() {
            int place = ORDER;
            for (int at = 0; at < length; at++) {
                place = placeAfter(place, signs[at]);
                if (place == WRONG) {
                    return at;
                }
            }
            boolean mayEnd = place == AFTER_C || place == SECOND_DIGIT || place == ORDER_ENDS;
            return mayEnd ? NONE : length;
        }

        int signAt(int at) {
            return at >= 0 && at < length ? signs[at] : 0;
        }

        boolean isDigitAt(int at) {
            return isDigit(signAt(at));
        }

        int digitAt(int at) {
            return signAt(at) - '0';
        }

        int numberAt(int at) {
            int number = 0;
            for (int place = at; isDigitAt(place) && place < at + 2; place++) {
                number = number * 10 + digitAt(place);
            }
            return number;
        }

        /** How many orders begin at a place: a clock with a number is as many. */
        int ordersAt(int at) {
            if (at > 0 && signAt(at - 1) != ';') {
                return 0;
            }
            return signAt(at) == 'c' && isDigitAt(at + 1) ? numberAt(at + 1) : 1;
        }

        private static int charactersIn(long characters) {
            long rest = characters;
            int many = 0;
            while (rest != 0 && many < SIGNS_IN_LONG) {
                int sign = (int) (rest & 255);
                if (sign < LOWEST_SIGN || sign > HIGHEST_SIGN) {
                    return BAD_VALUE;
                }
                rest >>>= 8;
                many++;
            }
            return many == 0 ? BAD_VALUE : many;
        }

        private static boolean isDigit(int sign) {
            return sign >= '0' && sign <= '9';
        }

        /** What may stand behind a sign, if the sign may stand at its own place. */
        private static int placeAfter(int place, int sign) {
            switch (place) {
                case ORDER: return afterLetter(sign);
                case AFTER_C: return isDigit(sign) ? afterFirstDigit(sign) : afterOrder(sign);
                case NUMBER: return afterFirstDigit(sign);
                case SECOND_DIGIT: return isDigit(sign) ? ORDER_ENDS : afterOrder(sign);
                case ORDER_ENDS: return afterOrder(sign);
                case STAGE: return isDigit(sign) ? EQUALS : WRONG;
                case EQUALS: return sign == '=' ? NUMBER : WRONG;
                default: return WRONG;
            }
        }

        private static int afterLetter(int sign) {
            switch (sign) {
                case 'c': return AFTER_C;
                case 't': return NUMBER;
                case 'd': return STAGE;
                case 'r':
                case 'w': return ORDER_ENDS;
                default: return WRONG;
            }
        }

        private static int afterFirstDigit(int sign) {
            if (!isDigit(sign)) {
                return WRONG;
            }
            // a number has no leading zero, so that nothing follows a 0
            return sign == '0' ? ORDER_ENDS : SECOND_DIGIT;
        }

        private static int afterOrder(int sign) {
            return sign == ';' ? ORDER : WRONG;
        }
    }
}
