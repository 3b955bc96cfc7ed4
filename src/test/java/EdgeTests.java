import java.util.Map;

/** Each sentence of the document's promises 1 to 23 that names a boundary; the refused calls stand in RefusalTests. */
public final class EdgeTests {
    private static final int NO_SUCH = -1, TOO_MANY = -4, NOT_POSSIBLE = -5, NONE = -6;
    private static final int STAGES = RippleCounts.STAGES, HOLD = RippleCounts.HOLD;

    public static void main(String[] args) {
        newCounter();
        setAnswersThePreviousValue();
        setBeginsAnew();
        delaysThatAreNotThereStay();
        turningsOnTheirWayStay();
        clockOncePerTime();
        passFrom1To99();
        passUpTo9999();
        readUpTo99();
        latchUpTo99();
        untilTheNextOne();
        readingIsTrue();
        seenInTheOrderOfTheFirstTime();
        readingsAndTrueOnes();
        nanosecondsSince();
        stillInCountsTheLastOne();
        showsIn0To99();
        whatIfBeyondTheTime();
        whatIfChangesNothing();
        wrongFrom1To50();
        safeGapUpTo50();
        lowestOfSeveralToBlame();
        noGapToBlame();
        put1To8Characters();
        putUpTo80();
        wipeEmpties();
        carryOutUpToTheFirstError();
        carryOutIsOneChange();
        undoesTheLatest();
        bringsBackWhatWasReadAndSeen();
        questionsAndTextsAreNoChanges();
        historyOf6();
        recordsEvenIfNothingIsDifferent();
        padSlotsAndHistoryAreNotUndone();
        saveOverwrites();
        saveLeavesOut();
        restoreKeeps();
        Due.end();
    }

    private static void counts(String what, RippleCounts x, int... want) {
        for (int i = 0; i < want.length; i++) {
            Due.is(what + ", count " + i, want[i], x.count(i));
        }
    }

    private static RippleCounts atTime(int time) {
        RippleCounts x = new RippleCounts();
        for (int left = time; left > 0; left -= 99) {
            x.pass(Math.min(left, 99));
        }
        return x;
    }

    private static RippleCounts withReadings(int many) {
        RippleCounts x = new RippleCounts();
        for (int i = 0; i < many; i++) {
            x.read();
        }
        return x;
    }

    private static RippleCounts withDelays(int... delays) {
        RippleCounts x = new RippleCounts();
        x.set(STAGES, delays.length);
        for (int stage = 0; stage < delays.length; stage++) {
            x.delay(stage, delays[stage]);
        }
        return x;
    }

    private static int carried(RippleCounts x, String text) {
        Packed.putAll(x, text);
        return x.carryOut();
    }

    private static void newCounter() {
        Due.about("Creates a counter that shows 0, at the time 0");
        RippleCounts x = new RippleCounts();
        counts("new", x, 0, 0, 0, 0, 0, 0, 0, 0, 0, 0, 4, 2, 0, 0);
        Due.is("no reading", NO_SUCH, x.reading(0, 0));
        Due.is("nothing seen", NO_SUCH, x.seen(0, 0));
        Due.is("nothing to undo", NOT_POSSIBLE, x.undo());
        Due.is("nothing saved in 0", NOT_POSSIBLE, x.restore(0));
        Due.is("nothing saved in 1", NOT_POSSIBLE, x.restore(1));
        Due.is("an empty pad", 0, x.wipe());
        Due.is("no clock came at the time 0", 1, x.clock());
    }

    private static void setAnswersThePreviousValue() {
        Due.about("Returns the previous value");
        RippleCounts x = new RippleCounts();
        int before = 4;
        for (int stages = 1; stages <= 5; stages++) {
            Due.is("STAGES " + stages, before, x.set(STAGES, stages));
            before = stages;
        }
        before = 2;
        for (int hold = 0; hold <= 20; hold++) {
            Due.is("HOLD " + hold, before, x.set(HOLD, hold));
            before = hold;
        }
    }

    /** A counter in the middle of everything: outputs, turnings, readings, a latch, a clock at this time. */
    private static RippleCounts busy() {
        RippleCounts x = new RippleCounts();
        x.set(STAGES, 5);
        for (int stage = 0; stage < 5; stage++) {
            x.delay(stage, 2 + stage);
        }
        x.set(HOLD, 7);
        carried(x, "c9;r;w;t1;c3;r;t2;c");
        return x;
    }

    private static void setBeginsAnew() {
        Due.about("With STAGES the counter begins anew (also with the same value)");
        for (int stages = 1; stages <= 5; stages++) {
            RippleCounts x = busy();
            Due.is("to " + stages, 5, x.set(STAGES, stages));
            counts("to " + stages, x, 15, 0, 0, 0, 0, 0, 0, 0, 15, 0, stages, 7, 0, 6);
            for (int stage = 0; stage < stages; stage++) {
                int[] due = {2 + stage, 0, 0, NONE, 0};
                for (int what = 0; what < due.length; what++) {
                    Due.is("to " + stages + ", of " + stage + ", " + what, due[what], x.of(stage, what));
                }
            }
            Due.is("nothing read", NO_SUCH, x.reading(0, 0));
            Due.is("nothing seen", NO_SUCH, x.seen(0, 0));
            Due.is("nothing comes", 0, x.stillIn());
            Due.is("no latch that waits", 1, x.latch());
            Due.is("no clock yet", 1, x.clock());
            Due.is("nothing of what was on its way is done", 0, x.pass(2));
            Due.is("what begins now is", 1, x.pass(1));
            Due.is("it is seen first", 1, x.seen(0, 0));
            Due.is("and once", 1, x.seen(0, 1));
        }
        RippleCounts x = busy();
        x.set(STAGES, 5);
        x.latch();
        x.pass(1);
        Due.is("nothing done yet, so that a latch need not wait", 15, x.reading(0, 1));
        x = busy();
        x.latch();
        x.set(HOLD, 7);
        counts("HOLD begins nothing anew", x, 15, x.count(1), 13, x.count(3), 2, x.count(5), x.count(6), x.count(7),
            x.count(8), 1);
    }

    private static void delaysThatAreNotThereStay() {
        Due.about("delays (of all five stages, also of those that there are not), and the time, stay");
        RippleCounts x = withDelays(11, 12, 13, 14, 15);
        for (int stages = 1; stages <= 5; stages++) {
            x.set(STAGES, stages);
            for (int stage = 0; stage < stages; stage++) {
                Due.is("delay of " + stage, 11 + stage, x.of(stage, 0));
            }
        }
        x.set(STAGES, 1);
        x.save(0);
        x.set(STAGES, 5);
        x.delay(4, 2);
        x.restore(0);
        x.set(STAGES, 5);
        Due.is("saved, too", 15, x.of(4, 0));
        x.undo();
        x.undo();
        Due.is("undone, too", 2, x.of(4, 0));
        x = atTime(150);
        x.set(STAGES, 4);
        Due.is("the time", 150, x.count(0));
    }

    private static void turningsOnTheirWayStay() {
        Due.about("Changes the delay of a stage (turnings on their way stay as they are)");
        RippleCounts x = new RippleCounts();
        x.delay(0, 10);
        x.clock();
        Due.is("previous one", 10, x.delay(0, 1));
        Due.is("a smaller one", 10, x.of(0, 3));
        x.delay(0, 20);
        Due.is("a greater one", 10, x.of(0, 3));
        Due.is("ahead of it", 0, x.pass(10));
        Due.is("done", 1, x.pass(1));
    }

    private static void clockOncePerTime() {
        Due.about("Returns the count then; NOT_POSSIBLE if one came at this time already");
        RippleCounts x = new RippleCounts();
        Due.is("the first one at 0", 1, x.clock());
        Due.is("a second one at 0", NOT_POSSIBLE, x.clock());
        x.pass(1);
        Due.is("the first one at 1", 2, x.clock());
        Due.is("a second one at 1", NOT_POSSIBLE, x.clock());
        x.undo();
        Due.is("again, when it was undone", 2, x.clock());
        Due.is("back at 0", 2, x.save(0));
        x.undo();
        x.undo();
        Due.is("it came at 0", NOT_POSSIBLE, x.clock());
        x.restore(0);
        Due.is("it came at 1", NOT_POSSIBLE, x.clock());
        x.pass(1);
        Due.is("not at 2", 3, x.clock());
    }

    private static void passFrom1To99() {
        Due.about("many: 1 to 99");
        RippleCounts x = new RippleCounts();
        Due.is("the least", 0, x.pass(1));
        Due.is("the time", 1, x.count(0));
        Due.is("the greatest", 0, x.pass(99));
        Due.is("the time", 100, x.count(0));
        Due.about("Returns how many turnings are done in them");
        x = withDelays(20);
        for (int i = 0; i < 20; i++) {
            x.clock();
            x.pass(1);
        }
        Due.is("many", 20, x.pass(99));
        x = withDelays(1, 1, 1, 1, 1);
        int all = 0;
        for (int i = 0; i < 16; i++) {
            x.clock();
            all += x.pass(6);
        }
        Due.is("of all stages: 16, 8, 4, 2 and 1", 31, all);
    }

    private static void passUpTo9999() {
        Due.about("NOT_POSSIBLE if the time would be above 9999");
        RippleCounts x = atTime(9900);
        Due.is("up to 9999", 0, x.pass(99));
        Due.is("at 9999", 9999, x.count(0));
        Due.is("1 more", NOT_POSSIBLE, x.pass(1));
        Due.is("99 more", NOT_POSSIBLE, x.pass(99));
        x = atTime(9901);
        Due.is("up to 10000", NOT_POSSIBLE, x.pass(99));
        Due.is("still at 9901", 9901, x.count(0));
        Due.is("up to 9999", 0, x.pass(98));
        x = atTime(9998);
        x.clock();
        Due.is("above it by 1", NOT_POSSIBLE, x.pass(2));
        Due.is("nothing of it passes", 9998, x.count(0));
        Due.is("the last one", 0, x.pass(1));
        Due.is("a clock at the end", 2, x.clock());
        Due.is("a reading at the end", 0, x.read());
        Due.is("a latch at the end", 1, x.latch());
        Due.is("a text's pass", 1, carried(x, "r;t1;r"));
        x.set(STAGES, 2);
        Due.is("the time stays at its end", NOT_POSSIBLE, x.pass(1));
    }

    private static void readUpTo99() {
        Due.about("TOO_MANY if there are 99 readings, a latch that waits counted as one");
        RippleCounts x = withReadings(98);
        Due.is("the 99th", 0, x.read());
        Due.is("the 100th", TOO_MANY, x.read());
        Due.is("the last one", 98, lastReading(x));
        x = withReadings(97);
        x.latch();
        Due.is("97 and a latch", 0, x.read());
        Due.is("98 and a latch", TOO_MANY, x.read());
        x.pass(1);
        Due.is("98 and one that closed", TOO_MANY, x.read());
        Due.is("the one that closed", 1, x.reading(98, 3));
        x.set(STAGES, 4);
        Due.is("nothing read", 0, x.read());
        x = withReadings(98);
        Due.is("orders of a text", 1, carried(x, "r;r;r"));
        Due.is("99", 99, x.count(4));
    }

    private static int lastReading(RippleCounts x) {
        int last = -1;
        while (x.reading(last + 1, 0) != NO_SUCH) {
            last++;
        }
        return last;
    }

    private static void latchUpTo99() {
        Due.about("NOT_POSSIBLE if it waits already; TOO_MANY if there are 99 readings (a latch that closes is one)");
        RippleCounts x = withReadings(98);
        Due.is("at 98", 1, x.latch());
        Due.is("it waits already, at 98 and itself", NOT_POSSIBLE, x.latch());
        x.pass(1);
        Due.is("it closed", 99, x.count(4));
        Due.is("at 99", TOO_MANY, x.latch());
        x.undo();
        Due.is("it waits again", NOT_POSSIBLE, x.latch());
        x = withReadings(99);
        Due.is("at 99 readings of gates", TOO_MANY, x.latch());
        Due.is("an order", 0, carried(x, "w"));
        Due.is("none waits", 0, x.count(9));
    }

    private static void untilTheNextOne() {
        Due.about("nanoseconds until the next one of these is done (NONE; 0: in this one)");
        RippleCounts x = withDelays(20);
        Due.is("none", NONE, x.of(0, 3));
        x.clock();
        for (int until = 20; until >= 1; until--) {
            Due.is("until then", until, x.of(0, 3));
            x.pass(1);
        }
        Due.is("in this one", 0, x.of(0, 3));
        x.pass(1);
        Due.is("none behind it", NONE, x.of(0, 3));
    }

    private static void readingIsTrue() {
        Due.about("whether it was true: the number is the count (1 or 0)");
        RippleCounts x = withDelays(3);
        x.read();
        x.clock();
        x.read();
        x.pass(1);
        x.clock();
        x.read();
        x.pass(3);
        x.read();
        int[][] due = {{0, 0, 0, 0, 1}, {0, 0, 1, 0, 0}, {0, 1, 0, 0, 1}, {1, 4, 0, 0, 0}};
        for (int reading = 0; reading < due.length; reading++) {
            for (int what = 0; what < 5; what++) {
                Due.is("reading " + reading + ", " + what, due[reading][what], x.reading(reading, what));
            }
        }
        x.pass(9);
        Due.is("what comes later does not matter", 0, x.reading(1, 4));
        Due.is("behind the last one", NO_SUCH, x.reading(4, 0));
        x.latch();
        Due.is("a latch that waits is none", NO_SUCH, x.reading(4, 3));
        x.pass(1);
        Due.is("one that closed is", 1, x.reading(4, 3));
    }

    private static void seenInTheOrderOfTheFirstTime() {
        Due.about("in the order in which each was for the first time");
        RippleCounts x = withDelays(1, 1, 1, 1, 1);
        for (int i = 0; i < 33; i++) {
            x.clock();
            x.pass(6);
        }
        int[] due = {1, 0, 2, 3, 4, 5, 6, 7, 8, 9, 10, 11, 12, 13, 14, 15, 16, 17, 18, 19, 20, 21, 22, 23, 24, 25, 26, 27,
            28, 29, 30, 31};
        for (int rank = 0; rank < due.length; rank++) {
            Due.is("rank " + rank, due[rank], x.seen(rank, 0));
        }
        Due.is("all 32 numbers", NO_SUCH, x.seen(32, 0));
        Due.is("1 was seen twice", 2, x.seen(0, 1));
        Due.is("1 for the first time", 1, x.seen(0, 3));
        Due.is("31 was seen once", 1, x.seen(31, 1));
        Due.is("31 did not flash", 0, x.seen(31, 2));
        Due.is("30 flashed once", 1, x.seen(30, 2));
        Due.is("30 was seen twice", 2, x.seen(30, 1));
    }

    private static void readingsAndTrueOnes() {
        Due.about("4 readings, 5 true ones");
        RippleCounts x = withReadings(99);
        counts("99 true ones", x, 0, 0, 0, 0, 99, 99);
        x = new RippleCounts();
        x.clock();
        carried(x, "r;r;r;r;r;r;r;r;r;r;r;r;r;r;r;r;r;r;r;r;r;r;r;r;r;r;r;r;r;r;r;r;r;r;r;r;r;r;r;r");
        counts("40 that are not", x, 0, 0, 1, 1, 40, 0);
        x.latch();
        counts("a latch that waits is none", x, 0, 0, 1, 1, 40, 0);
        x.pass(99);
        counts("one that closed", x, 99, 1, 1, 0, 41, 1);
    }

    private static void nanosecondsSince() {
        Due.about("since the one in which something was done last, that one not counted (the time, if nothing ever was)");
        RippleCounts x = new RippleCounts();
        Due.is("at 0", 0, x.count(8));
        x.clock();
        x.pass(3);
        Due.is("a clock is not done yet", 3, x.count(8));
        x.pass(1);
        Due.is("done in the last one", 0, x.count(8));
        x.pass(1);
        Due.is("in the one ahead of it", 1, x.count(8));
        x.read();
        x.latch();
        x.pass(5);
        Due.is("a latch that closes does not matter", 6, x.count(8));
        x.undo();
        Due.is("undone", 1, x.count(8));
        x.set(STAGES, 4);
        Due.is("nothing done yet", 5, x.count(8));
        x = withDelays(1);
        x.clock();
        x.pass(1);
        x.clock();
        x.pass(1);
        Due.is("delay 1: the clock's turning is not in its own nanosecond", 0, x.count(8));
        Due.is("delay 1: the second one is left", 1, x.stillIn());
    }

    private static void stillInCountsTheLastOne() {
        Due.about("until nothing is on its way any more ... (the one of the last turning counted) ... (0 if it is so now)");
        RippleCounts x = withDelays(1);
        Due.is("so now", 0, x.stillIn());
        x.clock();
        Due.is("the least", 2, x.stillIn());
        x.pass(1);
        Due.is("the last one now", 1, x.stillIn());
        x.pass(1);
        Due.is("behind it", 0, x.stillIn());
        x = withDelays(1, 1, 1, 1, 1);
        for (int i = 0; i < 31; i++) {
            x.clock();
            x.pass(6);
        }
        for (int stage = 0; stage < 5; stage++) {
            x.delay(stage, 20);
        }
        x.clock();
        Due.is("the most", 101, x.stillIn());
        Due.is("ahead of the last turning", 16, x.showsIn(99));
        x.pass(99);
        Due.is("the last turning is the next but one", 2, x.stillIn());
        x.latch();
        Due.is("a latch that waits does not matter", 2, x.stillIn());
    }

    private static void showsIn0To99() {
        Due.about("many: 0 to 99");
        RippleCounts x = withDelays(20, 20, 20, 20, 18);
        Packed.putAll(x, "c;t99;c");
        x.carryOut();
        Due.is("0: what shows", 1, x.showsIn(0));
        Due.is("ahead of the turning", 1, x.showsIn(20));
        Due.is("behind it", 0, x.showsIn(21));
        Due.is("ahead of the next one", 0, x.showsIn(40));
        Due.is("behind the next one", 2, x.showsIn(41));
        Due.is("99", 2, x.showsIn(99));
        for (int many = 0; many <= 99; many++) {
            RippleCounts y = withDelays(20, 20, 20, 20, 18);
            Packed.putAll(y, "c;t99;c");
            y.carryOut();
            if (many > 0) {
                y.pass(many);
            }
            Due.is("as it then is, " + many, y.count(1), x.showsIn(many));
        }
    }

    private static void whatIfBeyondTheTime() {
        Due.about("what if; nothing changes (the bound of the time does not matter)");
        RippleCounts x = atTime(9999);
        x.delay(0, 20);
        x.clock();
        Due.is("stillIn", 21, x.stillIn());
        Due.is("showsIn 20", 0, x.showsIn(20));
        Due.is("showsIn 21", 1, x.showsIn(21));
        Due.is("showsIn 99", 1, x.showsIn(99));
        Due.is("wrong", 0, x.wrong(30));
        Due.is("safeGap", 30, x.safeGap());
        Due.is("toBlame", 0, x.toBlame(0));
        Due.is("safeGap then", 11, x.toBlame(1));
        Due.is("the time", 9999, x.count(0));
    }

    private static void whatIfChangesNothing() {
        RippleCounts x = busy();
        Map<String, Integer> before = Snapshot.of(x);
        Due.same("asked twice", before, Snapshot.of(x));
        Due.is("no change is recorded", 6, x.count(13));
        RippleCounts y = busy();
        x.pass(40);
        y.pass(40);
        Due.same("later, too", Snapshot.of(y), Snapshot.of(x));
    }

    private static void wrongFrom1To50() {
        Due.about("wrong: gap: 1 to 50");
        RippleCounts x = new RippleCounts();
        Due.is("the least", 16, x.wrong(1));
        Due.is("the greatest", 0, x.wrong(50));
        Due.is("read ahead of the turning", 2, withDelays(1).wrong(1));
        Due.is("read behind it", 0, withDelays(1).wrong(2));
        Due.is("the wrap-around is read, too", 4, withDelays(1, 1, 1, 1, 1).wrong(4));
        x = withDelays(20, 20, 10);
        Due.is("the last stage in the nanosecond behind the reading", 2, x.wrong(50));
        x.delay(2, 9);
        Due.is("the last stage in the last nanosecond", 0, x.wrong(50));
        x.pass(40);
        x.clock();
        Due.is("a counter of its own that shows 0", 0, x.wrong(50));
    }

    private static void safeGapUpTo50() {
        Due.about("the least gap by which that test has no wrong reading, and none with a greater gap, up to 50, either");
        Due.is("the least", 2, withDelays(1).safeGap());
        Due.is("one stage", 21, withDelays(20).safeGap());
        Due.is("the greatest", 50, withDelays(20, 20, 9).safeGap());
        Due.is("none, by 1", NONE, withDelays(20, 20, 10).safeGap());
        Due.is("none, by far", NONE, withDelays(20, 20, 20, 20, 20).safeGap());
        for (int one = 1; one <= 4; one++) {
            for (int gap = 1; gap < 50; gap++) {
                RippleCounts x = withDelays(one, 3, 2, 1);
                Due.is("wrong below it alone", gap < x.safeGap() ? 1 : 0, Math.min(1, x.wrong(gap)));
            }
        }
    }

    private static void lowestOfSeveralToBlame() {
        Due.about("the stage whose delay, were it 1, would make safeGap() the least, of several the lowest one");
        blame(0, 2, 20);
        blame(0, 2, 1);
        blame(1, 3, 1, 2);
        blame(0, 3, 2, 1);
        blame(0, 4, 2, 2);
        blame(0, 3, 1, 1);
        blame(1, 10, 3, 5, 5);
        blame(2, 10, 3, 5, 6);
        blame(4, 7, 1, 1, 1, 2, 20);
        blame(0, 50, 20, 20, 20, 8);
        blame(2, 50, 19, 19, 20, 10);
    }

    private static void noGapToBlame() {
        Due.about("safeGap() then (51 if there is none)");
        blame(0, 51, 20, 20, 20, 20, 20);
        blame(0, 51, 9, 20, 20, 20);
        blame(1, 50, 8, 20, 20, 20);
        blame(0, 51, 1, 20, 20, 20, 9);
    }

    private static void blame(int stage, int gap, int... delays) {
        RippleCounts x = withDelays(delays);
        Due.is("stage " + stage, stage, x.toBlame(0));
        Due.is("gap " + gap, gap, x.toBlame(1));
        Due.is("the delay stays", delays[stage], x.of(stage, 0));
        x.delay(stage, 1);
        Due.is("safeGap then", gap == 51 ? NONE : gap, x.safeGap());
    }

    private static void put1To8Characters() {
        Due.about("characters: 1 to 8 characters");
        for (int many = 1; many <= 8; many++) {
            RippleCounts x = new RippleCounts();
            Due.is(many + " characters", many, x.put(Packed.of("r;r;r;r;".substring(0, many))));
            Due.is("all are there", many % 2 == 1 ? NONE : many, x.fault());
        }
        Due.about("its lowest 8 bits are the last character, the next 8 bits the one before, and so on");
        RippleCounts x = new RippleCounts();
        x.put(((long) 't' << 16) + ('1' << 8) + '2');
        Due.is("t12", 1, x.carryOut());
        Due.is("12", 12, x.count(0));
        Due.about("a code is not 33 to 126");
        Due.is("33", 1, x.put(33));
        Due.is("126", 2, x.put(126));
        Due.is("the greatest of all", 10, x.put(0x7e7e7e7e7e7e7e7eL));
    }

    private static void putUpTo80() {
        Due.about("TOO_MANY if the pad would be longer than 80");
        for (int many = 1; many <= 8; many++) {
            long characters = Packed.of("rrrrrrrr".substring(0, many));
            RippleCounts x = new RippleCounts();
            Packed.putAll(x, "r;".repeat(40).substring(0, 80 - many));
            Due.is(many + " up to 80", 80, x.put(characters));
            Due.is(many + " above 80", TOO_MANY, x.put(characters));
            x.wipe();
            Packed.putAll(x, "r;".repeat(40).substring(0, 81 - many));
            Due.is(many + " up to 81", TOO_MANY, x.put(characters));
            Due.is(many + ": nothing of them is put", 81 - many, x.count(12));
        }
    }

    private static void wipeEmpties() {
        Due.about("Empties the pad, and returns the length that it had");
        RippleCounts x = new RippleCounts();
        Due.is("empty", 0, x.wipe());
        Packed.putAll(x, "r;".repeat(40));
        Due.is("full", 80, x.wipe());
        Due.is("wiped", 0, x.count(12));
        Due.is("its fault", 0, x.fault());
        Due.is("wiped again", 0, x.wipe());
        Due.is("from the beginning", 1, x.put('c'));
        Due.is("one clock", 1, x.carryOut());
        Due.is("no change but this", 1, x.count(13));
    }

    private static void carryOutUpToTheFirstError() {
        Due.about("up to the first one that returns an error, and empties the pad");
        carriedUpTo(0, "t0;r");
        carriedUpTo(0, "d0=0;r");
        carriedUpTo(0, "d0=21;r");
        carriedUpTo(0, "d4=5;r");
        carriedUpTo(0, "d9=9;r");
        carriedUpTo(1, "c;c;r");
        carriedUpTo(1, "c;c1;r");
        carriedUpTo(1, "w;w;r");
        carriedUpTo(4, "c3;w;t0;r");
        RippleCounts x = new RippleCounts();
        Due.is("none of them returns one", 3, carried(x, "c;t1;c"));
        Due.is("empties the pad", 0, x.count(12));
        x = atTime(9999);
        Due.is("the time is over", 1, carried(x, "c;t1;r"));
        Due.is("nothing behind it", 0, x.count(4));
    }

    private static void carriedUpTo(int want, String text) {
        RippleCounts x = new RippleCounts();
        Due.is("'" + text + "', those ahead of the error", want, carried(x, text));
        Due.is("'" + text + "', no reading behind it", 0, x.count(4));
        Due.is("'" + text + "', the pad is empty", 0, x.count(12));
        Due.is("'" + text + "', one change", 1, x.count(13));
    }

    private static void carryOutIsOneChange() {
        Due.about("This is a change (one, with all of them; also if none is carried out)");
        RippleCounts x = new RippleCounts();
        Due.is("many orders", 12, carried(x, "c9;r;w;d0=9"));
        Due.is("one change", 1, x.count(13));
        Due.is("undone", 0, x.undo());
        counts("all of it", x, 0, 0, 0, 0, 0, 0, 0, 0, 0, 0, 4, 2, 0, 0);
        Due.is("the delay, too", 3, x.of(0, 0));
        Due.is("none is carried out", 0, carried(x, "t0"));
        Due.is("a change all the same", 1, x.count(13));
        Due.is("no order", 0, carried(x, "c0"));
        Due.is("a change, too", 2, x.count(13));
        Due.is("undone", 1, x.undo());
        Due.is("undone", 0, x.undo());
    }

    private static void undoesTheLatest() {
        Due.about("everything except the pad, the slots and the history is as it was before it");
        int[][] changes = {{0, 3}, {1, 0}, {2, 9}, {3, 50}, {4, 0}, {5, 0}, {6, 0}, {7, 0}};
        for (int[] change : changes) {
            RippleCounts x = busy();
            Map<String, Integer> before = Snapshot.of(x);
            changeOf(x, change[0], change[1]);
            Due.is("change " + change[0] + " is undone", 5, x.undo());
            before.put("count(13)", 5);
            Due.same("change " + change[0], before, Snapshot.of(x));
            Due.is("a clock came at this time", NOT_POSSIBLE, x.clock());
            Due.is("a latch waits", NOT_POSSIBLE, x.latch());
        }
        for (int kind = 8; kind <= 9; kind++) {
            RippleCounts x = busy();
            x.pass(60);
            Map<String, Integer> before = Snapshot.of(x);
            changeOf(x, kind, 0);
            Due.is("change " + kind + " is undone", 5, x.undo());
            before.put("count(13)", 5);
            Due.same("change " + kind, before, Snapshot.of(x));
            Due.is("no clock came at this time", before.get("count(2)") + 1, x.clock());
            Due.is("no latch waits", 1, x.latch());
        }
    }

    /** What was read and seen anew stands where the earlier ones stood: undo and restore have to bring these back. */
    private static void bringsBackWhatWasReadAndSeen() {
        Due.about("everything except the pad, the slots and the history is as it was before it");
        RippleCounts x = busy();
        x.pass(60);
        Map<String, Integer> before = Snapshot.of(x);
        x.save(0);
        readAndSeenAnew(x);
        Due.is("the first reading is another one", 1, x.reading(0, 1) > before.get("reading(0, 1)") ? 1 : 0);
        Due.is("the first number was seen later", 1, x.seen(0, 3) > before.get("seen(0, 3)") ? 1 : 0);
        x.restore(0);
        Due.same("restored", before, Snapshot.of(x));
        Map<String, Integer> anew = Snapshot.of(readAndSeenAnew(busy()));
        x = busy();
        x.save(0);
        readAndSeenAnew(x);
        x.restore(0);
        x.undo();
        anew.put("count(13)", 5);
        Due.same("the restoring undone", anew, Snapshot.of(x));
        x = busy();
        x.pass(60);
        readAndSeenAnew(x);
        x.undo();
        x.undo();
        x.undo();
        before.put("count(13)", 3);
        Due.same("all undone", before, Snapshot.of(x));
    }

    /** Three changes. */
    private static RippleCounts readAndSeenAnew(RippleCounts x) {
        x.set(STAGES, 3);
        x.pass(5);
        carried(x, "r;c;r;t30;c;t1;r;c;t3;r;c3;w;t40;r");
        return x;
    }

    private static void questionsAndTextsAreNoChanges() {
        Due.about("each method that is a change, and returns no error, records the state before it");
        RippleCounts x = new RippleCounts();
        x.delay(0, 8);
        Snapshot.of(x);
        Due.is("questions", 1, x.count(13));
        x.put('c');
        x.fault();
        x.wipe();
        Due.is("texts that are not carried out", 1, x.count(13));
        x.save(0);
        Due.is("saving", 1, x.count(13));
        x.clock();
        Due.is("a clock", 2, x.count(13));
        x.clock();
        Due.is("an error", 2, x.count(13));
        Due.is("undo itself", 1, x.undo());
        Due.is("the delay is still there", 8, x.of(0, 0));
        Due.is("the first change is the last one to undo", 0, x.undo());
        Due.is("the delay ahead of it", 3, x.of(0, 0));
        for (int kind = 0; kind <= 9; kind++) {
            RippleCounts y = new RippleCounts();
            y.pass(1);
            changeOf(y, kind, 3);
            Due.is("change " + kind, 2, y.count(13));
        }
    }

    private static void changeOf(RippleCounts x, int kind, int value) {
        switch (kind) {
            case 0: x.set(STAGES, value); break;
            case 1: x.set(HOLD, value); break;
            case 2: x.delay(1, value); break;
            case 3: x.pass(value); break;
            case 4: x.read(); break;
            case 5: Due.is("restored", x.save(0), x.restore(0)); break;
            case 6: carried(x, "c5;t9;r;w;d0=1"); break;
            case 7: carried(x, "t0"); break;
            case 8: x.clock(); break;
            default: x.latch();
        }
    }

    private static void historyOf6() {
        Due.about("A history of at most 6 states is kept ... when one more is recorded, the oldest one is dropped");
        for (int changes = 0; changes <= 20; changes++) {
            RippleCounts x = new RippleCounts();
            for (int i = 0; i < changes; i++) {
                x.pass(1);
            }
            int kept = Math.min(changes, 6);
            Due.is(changes + " changes", kept, x.count(13));
            for (int left = kept - 1; left >= 0; left--) {
                Due.is(changes + " changes, that can be undone then", left, x.undo());
                Due.is(changes + " changes, the time then", changes - kept + left, x.count(0));
            }
            Due.is(changes + " changes, no more", NOT_POSSIBLE, x.undo());
            Due.is(changes + " changes, those that were dropped", changes - kept, x.count(0));
        }
        RippleCounts x = new RippleCounts();
        for (int i = 0; i < 9; i++) {
            x.pass(1);
        }
        x.undo();
        x.undo();
        x.pass(50);
        Due.is("one on the way back", 5, x.count(13));
        int[] times = {7, 6, 5, 4, 3};
        for (int time : times) {
            x.undo();
            Due.is("what was undone is gone", time, x.count(0));
        }
        Due.is("no more", NOT_POSSIBLE, x.undo());
    }

    private static void recordsEvenIfNothingIsDifferent() {
        Due.about("records the state before it (also if nothing is different then)");
        RippleCounts x = new RippleCounts();
        x.set(STAGES, 4);
        Due.is("STAGES of the same value", 1, x.count(13));
        x.set(HOLD, 2);
        Due.is("HOLD of the same value", 2, x.count(13));
        x.delay(0, 3);
        Due.is("the same delay", 3, x.count(13));
        x.save(0);
        x.restore(0);
        Due.is("the same state", 4, x.count(13));
        carried(x, "c0");
        Due.is("a text without an order", 5, x.count(13));
    }

    private static void padSlotsAndHistoryAreNotUndone() {
        Due.about("everything except the pad, the slots and the history");
        RippleCounts x = new RippleCounts();
        x.pass(1);
        x.put(Packed.of("c9"));
        x.save(0);
        x.undo();
        Due.is("the pad", 2, x.count(12));
        Due.is("the history", 0, x.count(13));
        Due.is("the slot", 0, x.restore(0));
        Due.is("the slot's time", 1, x.count(0));
        Due.is("the pad's text", 9, x.carryOut());
        x.undo();
        Due.is("the pad stays empty", 0, x.count(12));
    }

    private static void saveOverwrites() {
        Due.about("Saves ... in a slot, and overwrites what was saved there");
        RippleCounts x = new RippleCounts();
        x.clock();
        x.pass(5);
        Due.is("the count", 1, x.save(0));
        x.clock();
        x.pass(5);
        Due.is("the count", 2, x.save(1));
        x.clock();
        Due.is("the count", 3, x.save(0));
        x.pass(5);
        Due.is("saved last", 3, x.restore(0));
        counts("saved last", x, 10, 0, 3, 2);
        Due.is("the other slot", 2, x.restore(1));
        counts("the other slot", x, 10, 0, 2, 1);
        x.set(STAGES, 1);
        x.clock();
        x.pass(1);
        x.clock();
        Due.is("wrapped around", 0, x.save(1));
        Due.is("wrapped around", 0, x.restore(1));
        Due.is("STAGES, too", 1, x.count(10));
    }

    private static void saveLeavesOut() {
        Due.about("everything except the pad, the history and the slots");
        RippleCounts x = busy();
        x.latch();
        x.put(Packed.of("c9"));
        Map<String, Integer> before = Snapshot.of(x);
        x.save(1);
        x.set(HOLD, 1);
        x.set(STAGES, 2);
        x.delay(0, 20);
        x.wipe();
        x.undo();
        x.save(0);
        x.restore(1);
        Map<String, Integer> behind = Snapshot.of(x);
        Due.is("not the pad", 0, behind.get("count(12)"));
        Due.is("not its fault", 0, behind.get("fault()"));
        Due.is("not the history", 6, behind.get("count(13)"));
        behind.put("count(12)", before.get("count(12)"));
        behind.put("fault()", before.get("fault()"));
        Due.same("everything else", before, behind);
        Due.is("a clock came at this time", NOT_POSSIBLE, x.clock());
        Due.is("not the slots", 0, x.restore(0));
    }

    private static void restoreKeeps() {
        Due.about("Restores what was saved last in a slot, which keeps it. This is a change");
        RippleCounts x = new RippleCounts();
        x.pass(7);
        x.save(1);
        for (int i = 0; i < 3; i++) {
            x.pass(20);
            x.clock();
            Due.is("the count", 0, x.restore(1));
            Due.is("the time", 7, x.count(0));
        }
        Due.is("changes", 6, x.count(13));
        Due.is("undone", 5, x.undo());
        Due.is("the time ahead of it", 27, x.count(0));
        Due.is("the count ahead of it", 1, x.count(2));
        Due.is("it keeps it", 0, x.restore(1));
        Due.is("the time", 7, x.count(0));
    }
}
