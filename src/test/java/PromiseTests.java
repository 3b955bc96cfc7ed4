/** For each promise: ordinary calls, the edges that the document names, and wrong arguments. */
public final class PromiseTests {
    private static final int NO_SUCH = -1, BAD_VALUE = -2, BAD_TEXT = -3, TOO_MANY = -4, NOT_POSSIBLE = -5, NONE = -6;
    private static final int LOW = Integer.MIN_VALUE, HIGH = Integer.MAX_VALUE;

    public static void main(String[] args) {
        constants();
        promise1New();
        promise2SetAnswers();
        promise2SetBeginsAnew();
        promise3Delay();
        promise4Clock();
        promise5Pass();
        promise5TurningsOfOneTime();
        promise6Read();
        promise7Latch();
        promise7LatchHolds();
        promise8Of();
        promise9Reading();
        promise10Seen();
        promise11Count();
        promise11CountSets();
        promise12StillIn();
        promise13ShowsIn();
        promise14Wrong();
        promise15SafeGap();
        promise14And15ByHand();
        promise16ToBlame();
        promise17Put();
        promise18Wipe();
        promise19Fault();
        promise20CarryOut();
        promise20CarryOutStops();
        promise21Undo();
        promise21UndoEachChange();
        promise22Save();
        promise23Restore();
        errorsRecordNothing();
        Due.end();
    }

    private static void constants() {
        Due.is("NO_SUCH", -1, RippleCounts.NO_SUCH);
        Due.is("BAD_VALUE", -2, RippleCounts.BAD_VALUE);
        Due.is("BAD_TEXT", -3, RippleCounts.BAD_TEXT);
        Due.is("TOO_MANY", -4, RippleCounts.TOO_MANY);
        Due.is("NOT_POSSIBLE", -5, RippleCounts.NOT_POSSIBLE);
        Due.is("NONE", -6, RippleCounts.NONE);
        Due.is("STAGES", 0, RippleCounts.STAGES);
        Due.is("HOLD", 1, RippleCounts.HOLD);
    }

    private static void counts(String where, RippleCounts x, int... want) {
        for (int what = 0; what < want.length; what++) {
            Due.is(where + ", count " + what, want[what], x.count(what));
        }
    }

    private static void promise1New() {
        RippleCounts x = new RippleCounts();
        counts("new", x, 0, 0, 0, 0, 0, 0, 0, 0, 0, 0, 4, 2, 0, 0);
        for (int stage = 0; stage < 4; stage++) {
            Due.is("new: delay", 3, x.of(stage, 0));
            Due.is("new: output", 0, x.of(stage, 1));
        }
        x.clock();
        Due.is("new: objects are apart", 0, new RippleCounts().count(3));
    }

    private static void promise2SetAnswers() {
        RippleCounts x = new RippleCounts();
        Due.is("set STAGES to 5", 4, x.set(RippleCounts.STAGES, 5));
        Due.is("set STAGES to 1", 5, x.set(RippleCounts.STAGES, 1));
        Due.is("set HOLD to 20", 2, x.set(RippleCounts.HOLD, 20));
        Due.is("set HOLD to 0", 20, x.set(RippleCounts.HOLD, 0));
        int[][] bad = {{0, 0}, {0, 6}, {0, LOW}, {0, HIGH}, {1, -1}, {1, 21}, {-1, 1}, {2, 1}, {HIGH, 3}};
        for (int[] pair : bad) {
            Due.is("set " + pair[0] + ", " + pair[1], BAD_VALUE, x.set(pair[0], pair[1]));
        }
        counts("set", x, 0, 0, 0, 0, 0, 0, 0, 0, 0, 0, 1, 0, 0, 4);
    }

    private static void promise2SetBeginsAnew() {
        RippleCounts x = new RippleCounts();
        x.set(RippleCounts.STAGES, 5);
        x.delay(4, 9);
        x.delay(1, 7);
        x.set(RippleCounts.HOLD, 5);
        x.clock();
        x.pass(4);
        x.read();
        x.clock();
        x.latch();
        Due.is("STAGES anew", 5, x.set(RippleCounts.STAGES, 4));
        counts("STAGES anew", x, 4, 0, 0, 0, 0, 0, 0, 0, 4, 0, 4, 5, 0, 6);
        Due.is("STAGES anew: seen", NO_SUCH, x.seen(0, 0));
        Due.is("STAGES anew: reading", NO_SUCH, x.reading(0, 0));
        Due.is("STAGES anew: on its way", 0, x.of(0, 2));
        Due.is("STAGES anew: turnings", 0, x.of(0, 4));
        Due.is("STAGES anew: delay stays", 7, x.of(1, 0));
        Due.is("STAGES anew: a clock can come again", 1, x.clock());
        Due.is("STAGES anew, same value", 4, x.set(RippleCounts.STAGES, 4));
        counts("STAGES anew, same value", x, 4, 0, 0, 0, 0);
        x.latch();
        Due.is("HOLD does not begin anew", 5, x.set(RippleCounts.HOLD, 6));
        Due.is("HOLD does not begin anew: latch", 1, x.count(9));
        x.set(RippleCounts.STAGES, 5);
        Due.is("delay of a stage that was not there stays", 9, x.of(4, 0));
        x.latch();
        x.pass(1);
        Due.is("nothing was done since it began anew, so that a latch closes", 4, x.reading(0, 1));
    }

    private static void promise3Delay() {
        RippleCounts x = new RippleCounts();
        Due.is("delay to 20", 3, x.delay(0, 20));
        Due.is("delay to 1", 20, x.delay(0, 1));
        Due.is("delay of the last stage", 3, x.delay(3, 5));
        Due.is("delay of a stage that is not there", NO_SUCH, x.delay(4, 5));
        Due.is("delay of stage -1", NO_SUCH, x.delay(-1, 5));
        Due.is("delay of stage HIGH", NO_SUCH, x.delay(HIGH, 5));
        Due.is("no stage is told ahead of a bad delay", NO_SUCH, x.delay(4, 0));
        Due.is("delay 0", BAD_VALUE, x.delay(0, 0));
        Due.is("delay 21", BAD_VALUE, x.delay(0, 21));
        Due.is("delay LOW", BAD_VALUE, x.delay(0, LOW));
        Due.is("delays as they were", 1, x.of(0, 0));
        x.clock();
        x.delay(0, 9);
        Due.is("a turning on its way stays", 1, x.of(0, 3));
    }

    private static void promise4Clock() {
        RippleCounts x = new RippleCounts();
        x.set(RippleCounts.STAGES, 2);
        int[] due = {1, 2, 3, 0, 1};
        for (int i = 0; i < due.length; i++) {
            Due.is("clock " + i, due[i], x.clock());
            Due.is("a second clock at this time", NOT_POSSIBLE, x.clock());
            Due.is("clocks of a time are one", due[i], x.count(2));
            x.pass(1);
        }
        Due.is("turnings on their way at once", 3, x.of(0, 2));
    }

    private static void promise5Pass() {
        RippleCounts x = new RippleCounts();
        int[] bad = {0, -1, 100, LOW, HIGH};
        for (int many : bad) {
            Due.is("pass " + many, BAD_VALUE, x.pass(many));
        }
        Due.is("no time passed", 0, x.count(0));
        x.clock();
        Due.is("pass 3", 0, x.pass(3));
        Due.is("pass 1", 1, x.pass(1));
        x.clock();
        Due.is("two turnings in 7", 2, x.pass(7));
        for (int i = 0; i < 100; i++) {
            x.pass(99);
        }
        Due.is("pass up to 9911", 9911, x.count(0));
        Due.is("pass above 9999", NOT_POSSIBLE, x.pass(89));
        Due.is("pass up to 9999", 0, x.pass(88));
        Due.is("bad many at the end", BAD_VALUE, x.pass(100));
        Due.is("pass at 9999", NOT_POSSIBLE, x.pass(1));
        Due.is("time at the end", 9999, x.count(0));
        Due.is("a clock at 9999", 3, x.clock());
        Due.is("stillIn beyond the bound", 4, x.stillIn());
        Due.is("showsIn beyond the bound", 3, x.showsIn(4));
    }

    /** Clocks at 0 to 2, each with a delay 1 less than the one ahead: all three turn stage 0 over in one time. */
    private static void promise5TurningsOfOneTime() {
        RippleCounts x = new RippleCounts();
        x.delay(1, 1);
        x.delay(2, 20);
        for (int delay = 4; delay >= 2; delay--) {
            x.delay(0, delay);
            x.clock();
            x.pass(1);
        }
        Due.is("three on their way", 3, x.of(0, 2));
        Due.is("due in 1", 1, x.of(0, 3));
        Due.is("three done at once", 3, x.pass(2));
        Due.is("three done at once: output", 1, x.of(0, 1));
        Due.is("three done at once: one fall", 1, x.of(1, 2));
        Due.is("three done at once: seen once", 1, x.seen(0, 1));
        x.clock();
        Due.is("the delay that the next stage then has", 0, x.of(1, 3));
        Due.is("one more", 1, x.pass(1));
        Due.is("shows", 3, x.count(1));
    }

    private static void promise6Read() {
        RippleCounts x = new RippleCounts();
        x.clock();
        Due.is("read ahead of the ripple", 0, x.read());
        x.pass(4);
        Due.is("read behind it", 1, x.read());
        for (int i = 2; i < 97; i++) {
            Due.is("read " + i, 1, x.read());
        }
        x.latch();
        Due.is("97 readings and a latch", 1, x.read());
        Due.is("98 readings and a latch", TOO_MANY, x.read());
        Due.is("98 readings", 98, x.count(4));
        x.undo();
        x.undo();
        Due.is("98 readings without it", 1, x.read());
        x.clock();
        x.latch();
        x.undo();
        Due.is("the 99th", 1, x.read());
        Due.is("the 100th", TOO_MANY, x.read());
        Due.is("99 readings", 99, x.count(4));
        x.set(RippleCounts.STAGES, 4);
        Due.is("read anew", 0, x.read());
    }

    private static void promise7Latch() {
        RippleCounts x = new RippleCounts();
        Due.is("latch", 1, x.latch());
        Due.is("latch twice", NOT_POSSIBLE, x.latch());
        x.pass(1);
        Due.is("a latch closes", 0, x.count(9));
        Due.is("latch again", 1, x.latch());
        x.pass(1);
        for (int i = 0; i < 96; i++) {
            x.read();
        }
        Due.is("98 readings", 98, x.count(4));
        Due.is("latch at 98", 1, x.latch());
        Due.is("a latch that waits is told first", NOT_POSSIBLE, x.latch());
        x.pass(1);
        Due.is("latch at 99", TOO_MANY, x.latch());
        Due.is("closed at 98", 1, x.reading(98, 3));
    }

    private static void promise7LatchHolds() {
        for (int hold = 0; hold <= 20; hold++) {
            RippleCounts x = new RippleCounts();
            x.set(RippleCounts.HOLD, hold);
            x.latch();
            x.pass(1);
            Due.is("nothing was ever done, HOLD " + hold, 0, x.reading(0, 1));
            x.clock();
            x.pass(2);
            x.latch();
            x.pass(1);
            Due.is("waits for the turning, HOLD " + hold, 1, x.count(9));
            if (hold > 0) {
                x.pass(hold);
            }
            Due.is("waits until all is still, HOLD " + hold, 1, x.count(9));
            x.pass(1);
            Due.is("closes, HOLD " + hold, 0, x.count(9));
            int[] due = {1, 4 + hold, 1, 1, 1};
            for (int what = 0; what < 5; what++) {
                Due.is("closed, HOLD " + hold + ", what " + what, due[what], x.reading(1, what));
            }
            x.pass(5);
            x.latch();
            x.pass(20);
            Due.is("what was done counts, not the latch, HOLD " + hold, 10 + hold, x.reading(2, 1));
        }
    }

    private static void promise8Of() {
        RippleCounts x = new RippleCounts();
        x.delay(0, 5);
        Due.is("next one, none", NONE, x.of(0, 3));
        x.clock();
        Due.is("next one", 5, x.of(0, 3));
        x.pass(2);
        x.clock();
        Due.is("on their way", 2, x.of(0, 2));
        Due.is("the next one of two", 3, x.of(0, 3));
        x.pass(3);
        Due.is("in this one", 0, x.of(0, 3));
        x.pass(1);
        Due.is("output", 1, x.of(0, 1));
        Due.is("done", 1, x.of(0, 4));
        x.pass(2);
        Due.is("output back", 0, x.of(0, 1));
        Due.is("done", 2, x.of(0, 4));
        Due.is("the next stage", 1, x.of(1, 2));
        x.pass(3);
        Due.is("the next stage's output", 1, x.of(1, 1));
        Due.is("delay", 5, x.of(0, 0));
        Due.is("of stage 4", NO_SUCH, x.of(4, 0));
        Due.is("of stage -1", NO_SUCH, x.of(-1, 0));
        Due.is("of stage LOW, bad what", NO_SUCH, x.of(LOW, 9));
        Due.is("what -1", BAD_VALUE, x.of(0, -1));
        Due.is("what 5", BAD_VALUE, x.of(3, 5));
    }

    private static void promise9Reading() {
        RippleCounts x = new RippleCounts();
        x.clock();
        x.pass(2);
        x.read();
        x.latch();
        x.pass(9);
        int[][] due = {{0, 2, 1, 0, 0}, {1, 5, 1, 1, 1}};
        for (int reading = 0; reading < 2; reading++) {
            for (int what = 0; what < 5; what++) {
                Due.is("reading " + reading + ", " + what, due[reading][what], x.reading(reading, what));
            }
        }
        Due.is("reading 2", NO_SUCH, x.reading(2, 0));
        Due.is("reading -1, bad what", NO_SUCH, x.reading(-1, 7));
        Due.is("reading HIGH", NO_SUCH, x.reading(HIGH, 0));
        Due.is("what -1", BAD_VALUE, x.reading(1, -1));
        Due.is("what 5", BAD_VALUE, x.reading(1, 5));
    }

    private static void promise10Seen() {
        RippleCounts x = new RippleCounts();
        x.pass(1);
        for (int i = 0; i < 4; i++) {
            x.clock();
            x.pass(20);
        }
        // 1; 0, 2; 3; 2, 0, 4
        int[][] due = {{1, 1, 0, 4}, {0, 2, 2, 24}, {2, 2, 1, 27}, {3, 1, 0, 44}, {4, 1, 0, 70}};
        for (int rank = 0; rank < due.length; rank++) {
            for (int what = 0; what < 4; what++) {
                Due.is("seen " + rank + ", " + what, due[rank][what], x.seen(rank, what));
            }
        }
        Due.is("seen 5", NO_SUCH, x.seen(5, 0));
        Due.is("seen -1, bad what", NO_SUCH, x.seen(-1, 9));
        Due.is("seen HIGH", NO_SUCH, x.seen(HIGH, 0));
        Due.is("what -1", BAD_VALUE, x.seen(0, -1));
        Due.is("what 4", BAD_VALUE, x.seen(4, 4));
    }

    private static void promise11Count() {
        RippleCounts x = new RippleCounts();
        x.pass(7);
        Due.is("nothing ever done", 7, x.count(8));
        x.clock();
        x.read();
        x.pass(4);
        Due.is("done in the last one", 0, x.count(8));
        x.read();
        x.latch();
        x.put(Packed.of("c9"));
        counts("count", x, 11, 1, 1, 0, 2, 1, 2, 0, 0, 1, 4, 2, 2, 6);
        x.pass(5);
        counts("count later", x, 16, 1, 1, 0, 3, 2, 2, 0, 5, 0, 4, 2, 2, 6);
        x.clock();
        Due.is("on their way", 1, x.count(3));
        Due.is("what -1", BAD_VALUE, x.count(-1));
        Due.is("what 14", BAD_VALUE, x.count(14));
        Due.is("what LOW", BAD_VALUE, x.count(LOW));
    }

    private static void promise11CountSets() {
        RippleCounts x = new RippleCounts();
        x.set(RippleCounts.STAGES, 5);
        Packed.putAll(x, "d0=1;d1=1;d2=1;d3=1;d4=1");
        x.carryOut();
        for (int i = 0; i < 31; i++) {
            x.clock();
            x.pass(6);
        }
        Due.is("31 shows", 31, x.count(1));
        Due.is("all numbers were seen", -1, x.count(6));
        x.clock();
        x.pass(6);
        int flashed = 0;
        for (int number = 0; number < 32; number++) {
            flashed |= x.seen(number, 2) > 0 ? 1 << x.seen(number, 0) : 0;
        }
        Due.is("those that flashed", flashed, x.count(7));
        Due.is("31 never flashed", 0, x.count(7) >>> 31);
        Due.is("30 flashed", 1, x.count(7) >>> 30 & 1);
    }

    private static void promise12StillIn() {
        RippleCounts x = new RippleCounts();
        Due.is("still now", 0, x.stillIn());
        x.set(RippleCounts.STAGES, 5);
        for (int stage = 0; stage < 5; stage++) {
            x.delay(stage, 20);
        }
        for (int clock = 0; clock < 31; clock++) {
            x.clock();
            x.pass(99);
            x.pass(2);
        }
        Due.is("still at 31", 0, x.stillIn());
        x.clock();
        Due.is("the longest way", 101, x.stillIn());
        Due.is("nothing changes", 1, x.count(3));
        x.pass(99);
        Due.is("the last 2", 2, x.stillIn());
        x.pass(2);
        Due.is("still behind it", 0, x.stillIn());
        Due.is("shows 0", 0, x.count(1));
    }

    private static void promise13ShowsIn() {
        RippleCounts x = new RippleCounts();
        x.clock();
        x.pass(5);
        x.clock();
        int[] due = {1, 1, 1, 1, 0, 0, 0, 2};
        for (int many = 0; many < due.length; many++) {
            Due.is("showsIn " + many, due[many], x.showsIn(many));
        }
        Due.is("showsIn 99", 2, x.showsIn(99));
        Due.is("showsIn 100", BAD_VALUE, x.showsIn(100));
        Due.is("showsIn -1", BAD_VALUE, x.showsIn(-1));
        Due.is("showsIn LOW", BAD_VALUE, x.showsIn(LOW));
        counts("showsIn changes nothing", x, 5, 1, 2, 1, 0, 0, 2, 0, 1);
    }

    private static void promise14Wrong() {
        RippleCounts x = new RippleCounts();
        int[] bad = {0, -1, 51, LOW, HIGH};
        for (int gap : bad) {
            Due.is("wrong " + gap, BAD_VALUE, x.wrong(gap));
        }
        Due.is("wrong 12", 2, x.wrong(12));
        Due.is("wrong 13", 0, x.wrong(13));
        x.clock();
        x.pass(5);
        x.clock();
        x.latch();
        Due.is("the test has a counter of its own", 2, x.wrong(12));
        Due.is("wrong 50", 0, x.wrong(50));
        counts("wrong changes nothing", x, 5, 1, 2, 1, 0, 0, 2, 0, 1, 1);
    }

    private static void promise15SafeGap() {
        RippleCounts x = new RippleCounts();
        Due.is("safeGap", 13, x.safeGap());
        x.set(RippleCounts.STAGES, 1);
        Due.is("safeGap of one stage", 4, x.safeGap());
        x.set(RippleCounts.STAGES, 3);
        x.delay(0, 20);
        x.delay(1, 20);
        x.delay(2, 9);
        Due.is("safeGap 50", 50, x.safeGap());
        x.delay(2, 10);
        Due.is("safeGap none", NONE, x.safeGap());
        Due.is("not safe at 50", 2, x.wrong(50));
    }

    /** All delays that a few numbers give, against tests that are run clock by clock on the slow counter. */
    private static void promise14And15ByHand() {
        int[] delays = {1, 2, 7, 16, 20};
        for (int stages = 1; stages <= 3; stages++) {
            for (int row = 0; row < Math.pow(delays.length, stages); row++) {
                RippleCounts x = new RippleCounts();
                SlowCounter slow = new SlowCounter();
                x.set(RippleCounts.STAGES, stages);
                slow.set(RippleCounts.STAGES, stages);
                int left = row;
                for (int stage = 0; stage < stages; stage++) {
                    x.delay(stage, delays[left % delays.length]);
                    slow.delay(stage, delays[left % delays.length]);
                    left /= delays.length;
                }
                String where = stages + " stages, delays " + row + ": ";
                for (int gap = 1; gap <= 50; gap++) {
                    Due.is(where + "wrong " + gap, slow.wrong(gap), x.wrong(gap));
                }
                Due.is(where + "safeGap", slow.safeGap(), x.safeGap());
                Due.is(where + "toBlame 0", slow.toBlame(0), x.toBlame(0));
                Due.is(where + "toBlame 1", slow.toBlame(1), x.toBlame(1));
            }
        }
    }

    private static void promise16ToBlame() {
        RippleCounts x = new RippleCounts();
        Due.is("of several the lowest one", 0, x.toBlame(0));
        Due.is("safeGap then", 11, x.toBlame(1));
        x.delay(2, 9);
        Due.is("the slow stage", 2, x.toBlame(0));
        Due.is("safeGap then", 11, x.toBlame(1));
        x.set(RippleCounts.STAGES, 5);
        for (int stage = 1; stage < 5; stage++) {
            x.delay(stage, 20);
        }
        Due.is("none for any stage", 0, x.toBlame(0));
        Due.is("none then", 51, x.toBlame(1));
        x.delay(3, 10);
        x.delay(4, 16);
        Due.is("none by one", 51, x.toBlame(1));
        Due.is("none by one: the lowest stage", 0, x.toBlame(0));
        x.delay(4, 15);
        Due.is("50 at last", 50, x.toBlame(1));
        Due.is("50 at last: the lowest of the slowest", 1, x.toBlame(0));
        x.delay(1, 2);
        Due.is("the slowest", 2, x.toBlame(0));
        Due.is("what 2", BAD_VALUE, x.toBlame(2));
        Due.is("what -1", BAD_VALUE, x.toBlame(-1));
        Due.is("delays stay", 20, x.of(2, 0));
    }

    private static void promise17Put() {
        RippleCounts x = new RippleCounts();
        Due.is("one character", 1, x.put('r'));
        Due.is("eight characters", 9, x.put(Packed.of(";w;r;w;r")));
        long[] bad = {0, -1, 32, 127, 255, Packed.of("c") << 8, 'c' << 16 | 'c', Long.MIN_VALUE, Long.MAX_VALUE,
            Packed.of("ccccccc ") , Packed.of("c") << 56, 0x8063636363636363L};
        for (long characters : bad) {
            Due.is("put " + characters, BAD_VALUE, x.put(characters));
        }
        Due.is("33 and 126 stand", 11, x.put(33 << 8 | 126));
        Due.is("the pad's length", 11, x.count(12));
        Due.is("put is no change", 0, x.count(13));
        for (int i = 0; i < 8; i++) {
            x.put(Packed.of("cccccccc"));
        }
        Due.is("up to 78", 78, x.put(Packed.of("ccc")));
        Due.is("above 80", TOO_MANY, x.put(Packed.of("ccc")));
        Due.is("a bad value is told ahead of it", BAD_VALUE, x.put(Packed.of("ccc ")));
        Due.is("up to 80", 80, x.put(Packed.of("cc")));
        Due.is("above 80", TOO_MANY, x.put('c'));
    }

    private static void promise18Wipe() {
        RippleCounts x = new RippleCounts();
        Due.is("wipe nothing", 0, x.wipe());
        x.put(Packed.of("c9;t5"));
        Due.is("wipe", 5, x.wipe());
        Due.is("wiped", 0, x.count(12));
        Due.is("no change", 0, x.count(13));
        x.put('r');
        Due.is("a text anew", NONE, x.fault());
    }

    private static void faultOf(String text, int want) {
        RippleCounts x = new RippleCounts();
        Packed.putAll(x, text);
        Due.is("fault of '" + text + "'", want, x.fault());
        Due.is("'" + text + "' stays", text.length(), x.count(12));
        if (want != NONE) {
            Due.is("carryOut of '" + text + "'", BAD_TEXT, x.carryOut());
            counts("'" + text + "' changes nothing", x, 0, 0, 0, 0, 0, 0, 0, 0, 0, 0, 4, 2, text.length(), 0);
        }
    }

    private static void promise19Fault() {
        String[] good = {"c", "c0", "c9", "c10", "c99", "t0", "t7", "t99", "d0=0", "d9=99", "d4=5", "r", "w", "c;c;c",
            "r;w;c5;t20;d3=12;c"};
        for (String text : good) {
            faultOf(text, NONE);
        }
        String[] short1 = {"", "t", "d", "d1", "d1=", "c;", "r;w;", "t5;d", "c9;t"};
        for (String text : short1) {
            faultOf(text, text.length());
        }
        faultOf("x", 0);
        faultOf(";", 0);
        faultOf("5", 0);
        faultOf("c;;c", 2);
        faultOf("c00", 2);
        faultOf("c05", 2);
        faultOf("c100", 3);
        faultOf("t100", 3);
        faultOf("t01", 2);
        faultOf("tc", 1);
        faultOf("t;", 1);
        faultOf("t-1", 1);
        faultOf("cc", 1);
        faultOf("c5c", 2);
        faultOf("c10r", 3);
        faultOf("r1", 1);
        faultOf("rw", 1);
        faultOf("w;r=", 3);
        faultOf("d10=5", 2);
        faultOf("d=5", 1);
        faultOf("d/=5", 1);
        faultOf("d:=5", 1);
        faultOf("d1=x", 3);
        faultOf("d1=;", 3);
        faultOf("d1==", 3);
        faultOf("d1=100", 5);
        faultOf("d1=05", 4);
        faultOf("C", 0);
        faultOf("c:", 1);
        faultOf("c/", 1);
    }

    private static int carried(RippleCounts x, String text) {
        Packed.putAll(x, text);
        return x.carryOut();
    }

    private static void promise20CarryOut() {
        RippleCounts x = new RippleCounts();
        Due.is("carryOut of nothing", BAD_TEXT, x.carryOut());
        Due.is("each kind", 6, carried(x, "d1=5;c;t4;r;w;t99"));
        counts("each kind", x, 103, 1, 1, 0, 2, 2, 2, 0, 99, 0, 4, 2, 0, 1);
        Due.is("the delay", 5, x.of(1, 0));
        Due.is("clocks with a number", 12, carried(x, "c12"));
        counts("clocks with a number", x, 115, 0, 13);
        Due.is("none of them, and what follows", 1, carried(x, "c0;r"));
        Due.is("a reading", 3, x.count(4));
        Due.is("0 orders", 0, carried(x, "c0"));
        Due.is("a change all the same", 4, x.count(13));
        Due.is("clocks and times", 7, carried(x, "c3;t1;c;t2;c1"));
        Due.is("two digits", 99, carried(x, "c99"));
        x = new RippleCounts();
        Due.is("a long text", 40, carried(x, "r;w;t1;r;w;t1;r;w;t1;r;w;t1;r;w;t1;r;w;t1;r;w;t1;c9;d0=9;d1=8;d3=2;c7"));
    }

    private static void promise20CarryOutStops() {
        RippleCounts x = new RippleCounts();
        Due.is("a pass of 0", 1, carried(x, "c;t0;r"));
        Due.is("nothing behind it", 0, x.count(4));
        Due.is("the pad is empty", 0, x.count(12));
        Due.is("a clock came already", 0, carried(x, "c3;r"));
        counts("nothing of it is done", x, 0, 0, 1, 1, 0);
        Due.is("no stage", 1, carried(x, "w;d4=5;r"));
        Due.is("a delay of 0", 0, carried(x, "d0=0;r"));
        Due.is("a delay of 21", 0, carried(x, "d0=21;r"));
        Due.is("a latch waits", 1, carried(x, "r;w;r"));
        Due.is("one reading", 1, x.count(4));
        Due.is("each is a change", 6, x.count(13));
        for (int i = 0; i < 100; i++) {
            x.pass(99);
        }
        x.pass(96);
        int before = x.count(2);
        Due.is("the time's end", 3, carried(x, "c5;r"));
        Due.is("only the clocks with their time", before + 3, x.count(2));
        Due.is("the time's end", 9999, x.count(0));
        Due.is("a clock alone", 1, carried(x, "c;t1"));
        for (int i = x.count(4); i < 99; i++) {
            x.read();
        }
        Due.is("too many readings", 0, carried(x, "r;d0=1"));
        Due.is("too many for a latch", 0, carried(x, "w;d0=1"));
        Due.is("nothing behind it", 3, x.of(0, 0));
    }

    private static void promise21Undo() {
        RippleCounts x = new RippleCounts();
        Due.is("undo nothing", NOT_POSSIBLE, x.undo());
        for (int i = 1; i <= 8; i++) {
            x.pass(i);
            Due.is("changes that can be undone", Math.min(i, 6), x.count(13));
        }
        int[] times = {28, 21, 15, 10, 6, 3};
        for (int i = 0; i < 6; i++) {
            Due.is("undo " + i, 5 - i, x.undo());
            Due.is("the time then", times[i], x.count(0));
        }
        Due.is("no more", NOT_POSSIBLE, x.undo());
        x.put('c');
        x.save(0);
        x.carryOut();
        x.put('r');
        Due.is("undo of a text", 0, x.undo());
        Due.is("the pad stays as it is", 1, x.count(12));
        Due.is("the text is undone", 0, x.count(3));
        x.pass(1);
        x.save(1);
        x.undo();
        Due.is("the slots stay", 0, x.restore(1));
        Due.is("from the slot", 4, x.count(0));
        x.undo();
        Due.is("undo of a restore", 3, x.count(0));
    }

    private static void promise21UndoEachChange() {
        RippleCounts x = new RippleCounts();
        x.clock();
        x.pass(4);
        x.clock();
        x.pass(1);
        x.read();
        x.latch();
        x.save(0);
        x.set(RippleCounts.STAGES, 3);
        x.restore(0);
        x.set(RippleCounts.HOLD, 9);
        x.delay(0, 7);
        x.clock();
        x.pass(30);
        x.read();
        x.latch();
        counts("ahead of undo", x, 35, 3, 3, 0, 3, 2, 15, 5, 22, 1, 4, 9, 0, 6);
        Due.is("undo latch", 5, x.undo());
        Due.is("no latch", 0, x.count(9));
        Due.is("undo read", 4, x.undo());
        Due.is("no reading", 2, x.count(4));
        Due.is("undo pass", 3, x.undo());
        counts("undo pass", x, 5, 1, 3, 2, 1, 0, 2, 0, 1, 1, 4, 9);
        Due.is("undo: seen", NO_SUCH, x.seen(1, 0));
        Due.is("undo: turnings", 1, x.of(0, 4));
        Due.is("undo: next one", 2, x.of(0, 3));
        Due.is("a clock came at this time", NOT_POSSIBLE, x.clock());
        Due.is("undo clock", 2, x.undo());
        Due.is("the count", 2, x.count(2));
        Due.is("undo delay", 1, x.undo());
        Due.is("the delay", 3, x.of(0, 0));
        Due.is("undo HOLD", 0, x.undo());
        Due.is("HOLD", 2, x.count(11));
        x.set(RippleCounts.STAGES, 3);
        Due.is("undo STAGES", 0, x.undo());
        counts("undo STAGES", x, 5, 1, 2, 1, 1, 0, 2, 0, 1, 1, 4, 2, 0, 0);
    }

    private static void promise22Save() {
        RippleCounts x = new RippleCounts();
        x.clock();
        Due.is("save", 1, x.save(0));
        Due.is("save is no change", 1, x.count(13));
        x.pass(1);
        x.clock();
        Due.is("save 1", 2, x.save(1));
        Due.is("save 2", BAD_VALUE, x.save(2));
        Due.is("save -1", BAD_VALUE, x.save(-1));
        Due.is("save LOW", BAD_VALUE, x.save(LOW));
        Due.is("restore 0", 1, x.restore(0));
        Due.is("time 0", 0, x.count(0));
        x.save(1);
        x.pass(9);
        Due.is("overwritten", 1, x.restore(1));
        Due.is("overwritten: time", 0, x.count(0));
    }

    private static void promise23Restore() {
        RippleCounts x = new RippleCounts();
        Due.is("nothing saved", NOT_POSSIBLE, x.restore(0));
        Due.is("restore 2", BAD_VALUE, x.restore(2));
        Due.is("restore -1", BAD_VALUE, x.restore(-1));
        Due.is("restore HIGH", BAD_VALUE, x.restore(HIGH));
        x.delay(0, 2);
        x.set(RippleCounts.HOLD, 1);
        x.clock();
        x.pass(3);
        x.clock();
        x.read();
        x.latch();
        x.put('r');
        x.save(1);
        Due.is("nothing saved in the other", NOT_POSSIBLE, x.restore(0));
        x.set(RippleCounts.STAGES, 2);
        x.set(RippleCounts.HOLD, 5);
        x.delay(0, 9);
        x.wipe();
        Due.is("restore", 2, x.restore(1));
        counts("restore", x, 3, 1, 2, 1, 1, 0, 2, 0, 0, 1, 4, 1, 0, 6);
        Due.is("restore: delay", 2, x.of(0, 0));
        Due.is("restore: reading", 3, x.reading(0, 1));
        Due.is("restore: seen", 1, x.seen(0, 1));
        Due.is("restore: next one", 2, x.of(0, 3));
        Due.is("restore: turnings", 1, x.of(0, 4));
        Due.is("restore: a clock came", NOT_POSSIBLE, x.clock());
        x.pass(20);
        Due.is("restore again: it keeps it", 2, x.restore(1));
        Due.is("restore again: time", 3, x.count(0));
        Due.is("restore is a change", 5, x.undo());
        Due.is("ahead of it", 23, x.count(0));
    }

    private static void errorsRecordNothing() {
        RippleCounts x = new RippleCounts();
        x.clock();
        x.latch();
        x.set(0, 9);
        x.delay(9, 1);
        x.clock();
        x.pass(0);
        x.latch();
        x.restore(0);
        x.carryOut();
        x.undo();
        Due.is("errors are no changes", 1, x.count(13));
        Due.is("undone is the latch", 0, x.count(9));
        Due.is("the clock is not", 1, x.count(2));
    }
}
