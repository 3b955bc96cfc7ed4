/** Each sentence of the document's "Terms" that names a boundary, ahead of what it asks for there. */
public final class TermsTests {
    private static final int NO_SUCH = -1, BAD_VALUE = -2, BAD_TEXT = -3, TOO_MANY = -4, NOT_POSSIBLE = -5, NONE = -6;
    private static final int STAGES = RippleCounts.STAGES, HOLD = RippleCounts.HOLD;

    public static void main(String[] args) {
        noneIsNoError();
        setsAreBitMasks();
        stagesFrom1To5();
        holdFrom0To20();
        stagesThatThereAre();
        delaysFrom1To20();
        outputsAtFirst();
        countIsLeftOver();
        showsWrapsAround();
        stage0TurnsOver();
        nextStageTurnsOver();
        delayThen();
        severalOnTheirWay();
        timeAtFirst();
        lowestStageFirst();
        turningsOfOneStage();
        beginningIsLater();
        seenIfSomethingWasDone();
        flashesIfNotTheCount();
        seenOncePerNanosecond();
        latchAndTurningsOnTheirWay();
        latchAndHold();
        latchTakesWhatShows();
        padOf80();
        numbersTo99();
        digits();
        clocksWithANumber();
        clockOfATextIsBothOrNothing();
        faultIsTheFirst();
        faultOfATextThatEndsTooEarly();
        Due.end();
    }

    private static void row(String what, RippleCounts x, String calls, int... want) {
        for (int i = 0; i < want.length; i++) {
            int got = calls.equals("count") ? x.count(i) : x.seen(Integer.parseInt(calls), i);
            Due.is(what + ", " + i, want[i], got);
        }
    }

    private static RippleCounts withStages(int stages) {
        RippleCounts x = new RippleCounts();
        x.set(STAGES, stages);
        return x;
    }

    // ---- conventions

    private static void noneIsNoError() {
        Due.about("NONE (-6) is not an error; it is returned only if no error applies");
        RippleCounts x = new RippleCounts();
        Due.is("nothing on its way in the stage 0", NONE, x.of(0, 3));
        Due.is("nothing on its way in the last stage", NONE, x.of(3, 3));
        Due.is("nothing on its way in no stage", NO_SUCH, x.of(4, 3));
        Due.is("nothing on its way in the stage -1", NO_SUCH, x.of(-1, 3));
        x.clock();
        Due.is("something on its way", 3, x.of(0, 3));
        Due.is("nothing in the next stage", NONE, x.of(1, 3));
    }

    private static void setsAreBitMasks() {
        Due.about("Sets of stages and numbers are bit masks");
        RippleCounts x = withStages(5);
        Due.is("the empty set", 0, x.count(6));
        for (int i = 0; i < 30; i++) {
            x.clock();
            x.pass(20);
        }
        Due.is("all but 31 were seen", 0x7fffffff, x.count(6));
        int flashed = x.count(7);
        x.clock();
        x.pass(1);
        x.clock();
        x.pass(3);
        Due.is("31 was seen, too", -1, x.count(6));
        Due.is("31 flashed", flashed | 1 << 31, x.count(7));
        x = withStages(1);
        x.clock();
        x.pass(4);
        Due.is("1 alone", 2, x.count(6));
        x.clock();
        x.pass(4);
        Due.is("0 and 1", 3, x.count(6));
    }

    // ---- settings

    private static void stagesFrom1To5() {
        Due.about("STAGES (1 to 5; 4)");
        RippleCounts x = new RippleCounts();
        Due.is("first value", 4, x.count(10));
        Due.is("too small", BAD_VALUE, x.set(STAGES, 0));
        Due.is("too large", BAD_VALUE, x.set(STAGES, 6));
        Due.is("as it was", 4, x.count(10));
        Due.is("the least", 4, x.set(STAGES, 1));
        Due.is("is 1", 1, x.count(10));
        Due.is("the greatest", 1, x.set(STAGES, 5));
        Due.is("is 5", 5, x.count(10));
    }

    private static void holdFrom0To20() {
        Due.about("HOLD (0 to 20; 2)");
        RippleCounts x = new RippleCounts();
        Due.is("first value", 2, x.count(11));
        Due.is("too small", BAD_VALUE, x.set(HOLD, -1));
        Due.is("too large", BAD_VALUE, x.set(HOLD, 21));
        Due.is("as it was", 2, x.count(11));
        Due.is("the least", 2, x.set(HOLD, 0));
        Due.is("is 0", 0, x.count(11));
        Due.is("the greatest", 0, x.set(HOLD, 20));
        Due.is("is 20", 20, x.count(11));
    }

    // ---- stages

    private static void stagesThatThereAre() {
        Due.about("A stage k, 0 to STAGES - 1");
        for (int stages = 1; stages <= 5; stages++) {
            RippleCounts x = withStages(stages);
            for (int what = 0; what <= 4; what++) {
                Due.is("below the first of " + stages, NO_SUCH, x.of(-1, what));
                Due.is("behind the last of " + stages, NO_SUCH, x.of(stages, what));
            }
            Due.is("the first of " + stages, 3, x.of(0, 0));
            Due.is("the last of " + stages, 3, x.of(stages - 1, 0));
            Due.is("delay of the last of " + stages, 3, x.delay(stages - 1, 7));
            Due.is("delay behind the last of " + stages, NO_SUCH, x.delay(stages, 7));
            Due.is("delay below the first of " + stages, NO_SUCH, x.delay(-1, 7));
        }
    }

    private static void delaysFrom1To20() {
        Due.about("has a delay (1 to 20; 3 at first)");
        RippleCounts x = withStages(5);
        for (int stage = 0; stage < 5; stage++) {
            Due.is("first value", 3, x.of(stage, 0));
            Due.is("too small", BAD_VALUE, x.delay(stage, 0));
            Due.is("too large", BAD_VALUE, x.delay(stage, 21));
            Due.is("the least", 3, x.delay(stage, 1));
            Due.is("is 1", 1, x.of(stage, 0));
            Due.is("the greatest", 1, x.delay(stage, 20));
            Due.is("is 20", 20, x.of(stage, 0));
        }
    }

    private static void outputsAtFirst() {
        Due.about("and an output, 0 or 1 (0 at first)");
        RippleCounts x = withStages(5);
        for (int stage = 0; stage < 5; stage++) {
            Due.is("output of " + stage, 0, x.of(stage, 1));
        }
        Due.is("shows", 0, x.count(1));
    }

    private static void countIsLeftOver() {
        Due.about("The count is how many clocks came, left over by 2 to the power of STAGES");
        for (int stages = 1; stages <= 5; stages++) {
            RippleCounts x = withStages(stages);
            int all = 1 << stages;
            for (int clock = 1; clock < all; clock++) {
                Due.is(stages + " stages, below the wrap-around", clock, x.clock());
                x.pass(1);
            }
            Due.is(stages + " stages, wraps around", 0, x.clock());
            Due.is(stages + " stages, the count", 0, x.count(2));
            x.pass(1);
            Due.is(stages + " stages, begins again", 1, x.clock());
        }
    }

    private static void showsWrapsAround() {
        Due.about("what shows is the number of the outputs, that of the stage k counting 2 to the power of k");
        for (int stages = 1; stages <= 5; stages++) {
            RippleCounts x = withStages(stages);
            int highest = (1 << stages) - 1;
            for (int clock = 1; clock <= highest; clock++) {
                x.clock();
                x.pass(20);
                Due.is(stages + " stages", clock, x.count(1));
            }
            x.clock();
            Due.is(stages + " stages: each falls, and nothing follows the last one", stages, x.pass(20));
            row(stages + " stages, wrapped around", x, "count", 20 << stages, 0, 0, 0);
            Due.is(stages + " stages: the last one rose and fell", 2, x.of(stages - 1, 4));
        }
    }

    private static void stage0TurnsOver() {
        Due.about("its output changes as many nanoseconds later as its delay");
        for (int delay = 1; delay <= 20; delay++) {
            RippleCounts x = new RippleCounts();
            x.delay(0, delay);
            x.clock();
            Due.is("delay " + delay + ", until then", delay, x.of(0, 3));
            Due.is("delay " + delay + ", ahead of it", 0, x.pass(delay));
            Due.is("delay " + delay + ", still 0", 0, x.count(1));
            Due.is("delay " + delay + ", now", 0, x.of(0, 3));
            Due.is("delay " + delay + ", done", 1, x.pass(1));
            Due.is("delay " + delay + ", 1", 1, x.count(1));
        }
    }

    private static void nextStageTurnsOver() {
        Due.about("Whenever the output of a stage changes from 1 to 0, the next stage turns over");
        for (int delay = 1; delay <= 20; delay++) {
            RippleCounts x = new RippleCounts();
            x.delay(0, 1);
            x.delay(1, delay);
            x.clock();
            x.pass(20);
            Due.is("not from 0 to 1", 0, x.of(1, 2));
            x.clock();
            Due.is("delay " + delay + ", the stage 0", 1, x.pass(2));
            Due.is("delay " + delay + ", begun", 1, x.of(1, 2));
            Due.is("delay " + delay + ", until then", delay - 1, x.of(1, 3));
            Due.is("delay " + delay + ", ahead of it", 0, delay == 1 ? 0 : x.pass(delay - 1));
            Due.is("delay " + delay + ", done", 1, x.pass(1));
            Due.is("delay " + delay + ", shows", 2, x.count(1));
        }
    }

    private static void delayThen() {
        Due.about("its output changes as many nanoseconds later as its delay then is");
        RippleCounts x = new RippleCounts();
        x.clock();
        x.pass(4);
        x.clock();
        x.delay(1, 9);
        x.pass(4);
        Due.is("the delay at the fall, not at the clock", 8, x.of(1, 3));
        x.delay(1, 1);
        Due.is("not the delay behind it", 8, x.of(1, 3));
        Due.is("ahead of it", 0, x.pass(8));
        Due.is("then", 1, x.pass(1));
    }

    private static void severalOnTheirWay() {
        Due.about("Several turnings of a stage can be on their way at once; each one is done at its time");
        RippleCounts x = withStages(1);
        x.delay(0, 20);
        for (int i = 0; i < 20; i++) {
            x.clock();
            x.pass(1);
        }
        x.clock();
        Due.is("as many as can be with one delay", 21, x.of(0, 2));
        Due.is("the first one now", 0, x.of(0, 3));
        for (int i = 1; i <= 21; i++) {
            Due.is("one in each nanosecond", 1, x.pass(1));
            Due.is("those that are left", 21 - i, x.of(0, 2));
            Due.is("turned over", i % 2, x.count(1));
        }
        x = withStages(1);
        x.delay(0, 20);
        x.clock();
        x.pass(1);
        x.delay(0, 1);
        x.clock();
        Due.is("the later one is the next", 1, x.of(0, 3));
        Due.is("it is done first", 1, x.pass(2));
        Due.is("one is left", 1, x.of(0, 2));
        Due.is("the earlier one", 17, x.of(0, 3));
        Due.is("ahead of it", 0, x.pass(17));
        Due.is("its time", 1, x.pass(1));
        Due.is("shows 0", 0, x.count(1));
    }

    // ---- a nanosecond

    private static void timeAtFirst() {
        Due.about("The time is 0 at first ... The time is 1 more");
        RippleCounts x = new RippleCounts();
        Due.is("at first", 0, x.count(0));
        x.pass(1);
        Due.is("behind one", 1, x.count(0));
        x.pass(99);
        Due.is("behind 100", 100, x.count(0));
    }

    private static void lowestStageFirst() {
        Due.about("The turnings that are due at the time of now are done, by stages, the lowest one first");
        RippleCounts x = new RippleCounts();
        x.clock();
        x.pass(4);
        x.clock();
        x.pass(3);
        x.clock();
        Due.is("the stage 0 falls", 1, x.pass(1));
        Due.is("nothing", 0, x.pass(2));
        Due.is("the stages 0 and 1 in one", 2, x.pass(1));
        Due.is("both rose", 3, x.count(1));
        row("what shows behind both is seen, once", x, "2", 3, 1, 0, 10);
        Due.is("no number between", 1 | 1 << 1 | 1 << 3, x.count(6));
    }

    private static void turningsOfOneStage() {
        Due.about("of one stage, in the order in which they began (each one turns the output over)");
        RippleCounts x = new RippleCounts();
        twoAtOnce(x);
        Due.is("two in one nanosecond", 2, x.pass(1));
        Due.is("rose and fell", 0, x.of(0, 1));
        Due.is("both are told", 2, x.of(0, 4));
        Due.is("one fall", 1, x.of(1, 2));
        row("is seen, though it shows what it did", x, "0", 0, 1, 1, 2);
        Due.is("the next stage", 1, x.pass(3));
        Due.is("the next stage rose", 2, x.count(1));
        x.clock();
        x.pass(5);
        twoAtOnce(x);
        Due.is("two in one nanosecond, from 1", 2, x.pass(1));
        Due.is("fell and rose", 1, x.of(0, 1));
        Due.is("one fall from 1", 1, x.of(1, 2));
    }

    /** Two turnings of the stage 0 that are due now. */
    private static void twoAtOnce(RippleCounts x) {
        x.delay(0, 2);
        x.clock();
        x.pass(1);
        x.delay(0, 1);
        x.clock();
        x.pass(1);
    }

    private static void beginningIsLater() {
        Due.about("A turning that begins in this has a delay of 1 or more, so that it is due later");
        RippleCounts x = withStages(5);
        for (int stage = 0; stage < 5; stage++) {
            x.delay(stage, 1);
        }
        for (int clock = 0; clock < 31; clock++) {
            x.clock();
            x.pass(6);
        }
        x.clock();
        int[] shows = {31, 30, 28, 24, 16, 0, 0};
        for (int i = 0; i < shows.length; i++) {
            Due.is("one stage a nanosecond", i == 0 || i == 6 ? 0 : 1, x.pass(1));
            Due.is("shows then", shows[i], x.count(1));
        }
    }

    private static void seenIfSomethingWasDone() {
        Due.about("If something was done, what shows then is seen");
        RippleCounts x = new RippleCounts();
        x.pass(99);
        Due.is("nothing done, nothing seen", 0, x.count(6));
        Due.is("no rank", NO_SUCH, x.seen(0, 0));
        x.clock();
        x.pass(3);
        x.read();
        Due.is("a clock and a reading are not seen", 0, x.count(6));
        x.pass(1);
        row("the turning", x, "0", 1, 1, 0, 102);
        x.pass(99);
        row("nothing done behind it", x, "0", 1, 1, 0, 102);
        Due.is("one number", NO_SUCH, x.seen(1, 0));
    }

    private static void flashesIfNotTheCount() {
        Due.about("it flashes if it is not the count");
        RippleCounts x = withStages(1);
        x.clock();
        x.pass(1);
        x.clock();
        x.pass(4);
        row("a clock came behind the one that is shown", x, "0", 1, 1, 1, 3);
        row("the count, which wrapped around", x, "1", 0, 1, 0, 4);
        Due.is("those that flashed", 2, x.count(7));
        x = withStages(2);
        for (int i = 0; i < 4; i++) {
            x.clock();
            x.pass(1);
        }
        x.pass(6);
        row("1 is not the count", x, "0", 1, 2, 2, 3);
        row("0 is the count, though the ripple is not through", x, "1", 0, 3, 0, 4);
        row("2 is not the count", x, "2", 2, 1, 1, 7);
        Due.is("flashed", 1 << 1 | 1 << 2, x.count(7));
    }

    private static void seenOncePerNanosecond() {
        Due.about("A number is seen once for each nanosecond with some turning");
        RippleCounts x = withStages(1);
        x.delay(0, 1);
        for (int i = 0; i < 20; i++) {
            x.clock();
            x.pass(1);
        }
        row("1", x, "0", 1, 10, 10, 1);
        row("0", x, "1", 0, 9, 9, 2);
        x.pass(1);
        row("0 at last", x, "1", 0, 10, 9, 2);
    }

    private static void latchAndTurningsOnTheirWay() {
        Due.about("A latch that waits closes, if no turning is on its way");
        RippleCounts x = new RippleCounts();
        x.set(HOLD, 0);
        x.delay(0, 20);
        x.clock();
        x.latch();
        x.pass(20);
        Due.is("one is on its way", 1, x.count(9));
        x.pass(1);
        Due.is("the last one is done", 0, x.count(9));
        Due.is("with HOLD 0 in its own nanosecond", 20, x.reading(0, 1));
        x = new RippleCounts();
        x.clock();
        x.pass(4);
        x.latch();
        x.pass(1);
        Due.is("done in the one ahead", 1, x.count(9));
        x.clock();
        x.pass(1);
        Due.is("still by now, but a clock came", 1, x.count(9));
        x.pass(20);
        Due.is("closed behind that clock's ripple", 13, x.reading(0, 1));
    }

    private static void latchAndHold() {
        Due.about("and none was done in the last HOLD nanoseconds (this one counted)");
        for (int hold = 0; hold <= 20; hold++) {
            RippleCounts x = new RippleCounts();
            x.set(HOLD, hold);
            x.latch();
            x.pass(1);
            Due.is("nothing was ever done, HOLD " + hold, 0, x.reading(0, 1));
            x.clock();
            x.latch();
            x.pass(50);
            Due.is("the last turning was at 4, HOLD " + hold, 4 + hold, x.reading(1, 1));
        }
        RippleCounts x = new RippleCounts();
        x.set(HOLD, 20);
        x.clock();
        x.pass(4);
        x.latch();
        x.pass(19);
        Due.is("19 are still, this one not counted", 1, x.count(9));
        x.undo();
        x.pass(5);
        x.set(HOLD, 6);
        x.pass(1);
        Due.is("HOLD of now", 9, x.reading(0, 1));
    }

    private static void latchTakesWhatShows() {
        Due.about("it takes what shows");
        RippleCounts x = new RippleCounts();
        x.set(HOLD, 0);
        x.clock();
        x.latch();
        x.pass(9);
        int[] due = {1, 3, 1, 1, 1};
        for (int what = 0; what < due.length; what++) {
            Due.is("what " + what, due[what], x.reading(0, what));
        }
        Due.is("once", 1, x.count(4));
        x.set(HOLD, 2);
        x.set(STAGES, 1);
        x.clock();
        x.pass(4);
        x.clock();
        x.latch();
        x.pass(9);
        Due.is("wrapped around", 0, x.reading(0, 0));
        Due.is("wrapped around: the count", 0, x.reading(0, 2));
        Due.is("wrapped around: true", 1, x.reading(0, 4));
    }

    // ---- texts

    private static RippleCounts withPad(String text) {
        RippleCounts x = new RippleCounts();
        Packed.putAll(x, text);
        return x;
    }

    private static void faultOf(String text, int want) {
        RippleCounts x = withPad(text);
        Due.is("fault of '" + text + "'", want, x.fault());
        Due.is("'" + text + "' stays", text.length(), x.count(12));
        Due.is("carryOut of '" + text + "'", want == NONE ? 0 : BAD_TEXT, Math.min(0, x.carryOut()));
    }

    private static void padOf80() {
        Due.about("The pad is a text of at most 80 characters");
        RippleCounts x = withPad("r;".repeat(40));
        Due.is("80", 80, x.count(12));
        Due.is("81", TOO_MANY, x.put('r'));
        Due.is("an order is missing", 80, x.fault());
        x.wipe();
        Packed.putAll(x, "r;".repeat(39) + "c1");
        Due.is("full without a fault", NONE, x.fault());
        Due.is("all of the full one", 40, x.carryOut());
        Due.is("empty", 0, x.count(12));
    }

    private static void numbersTo99() {
        Due.about("a number 0 to 99");
        String[] orders = {"c", "t", "d0="};
        for (String order : orders) {
            for (int number = 0; number <= 99; number++) {
                faultOf(order + number, NONE);
            }
            faultOf(order + "100", order.length() + 2);
            faultOf(order + "990", order.length() + 2);
            faultOf(order + "-1", order.length());
        }
        RippleCounts x = withPad("t99;d0=20;t1");
        Due.is("two digits are carried out", 3, x.carryOut());
        Due.is("99 and 1", 100, x.count(0));
        Due.is("20", 20, x.of(0, 0));

        Due.about("without leading zeros");
        for (String order : orders) {
            faultOf(order + "00", order.length() + 1);
            faultOf(order + "01", order.length() + 1);
            faultOf(order + "09", order.length() + 1);
            faultOf(order + "10", NONE);
        }
    }

    private static void digits() {
        Due.about("A digit is 0 to 9");
        for (int digit = 0; digit <= 9; digit++) {
            faultOf("d" + digit + "=5", NONE);
            RippleCounts x = withPad("d" + digit + "=5;r");
            Due.is("the stage " + digit, digit < 4 ? 2 : 0, x.carryOut());
        }
        faultOf("d/=5", 1);
        faultOf("d:=5", 1);
        faultOf("d=5", 1);
        faultOf("d10=5", 2);
        faultOf("t/", 1);
        faultOf("t:", 1);
    }

    private static void clocksWithANumber() {
        Due.about("with a number: so many clocks, one ahead of each of so many nanoseconds");
        RippleCounts x = withPad("c99");
        Due.is("each is an order of its own", 99, x.carryOut());
        row("c99", x, "count", 99, x.count(1), 99 % 16);
        x = withPad("c1");
        Due.is("one", 1, x.carryOut());
        row("c1", x, "count", 1, 0, 1, 1);
        x = withPad("c");
        Due.is("no number", 1, x.carryOut());
        row("c", x, "count", 0, 0, 1, 1);
        x = withPad("w;c9");
        Due.is("a clock is ahead of its nanosecond", 10, x.carryOut());
        row("so that no latch closes in it", x, "count", 9, x.count(1), 9, x.count(3), 0);
        Due.is("what is done in it is seen", 1, x.seen(0, 0));
        Due.about("with 0 there is none");
        x = withPad("c0");
        Due.is("orders", 0, x.carryOut());
        row("c0", x, "count", 0, 0, 0, 0);
        x = withPad("r;c0;r");
        Due.is("what follows is carried out", 2, x.carryOut());
        x = withPad("c;c0;r");
        Due.is("none, so none is refused", 2, x.carryOut());
    }

    private static void clockOfATextIsBothOrNothing() {
        Due.about("if one of both is not possible, nothing of it is done");
        RippleCounts x = withPad("c;c2;r");
        Due.is("a clock came at this time", 1, x.carryOut());
        row("the time does not pass", x, "count", 0, 0, 1, 1, 0);
        x = new RippleCounts();
        for (int i = 0; i < 101; i++) {
            x.pass(99);
        }
        Packed.putAll(x, "c5;r");
        Due.is("no time is left", 0, x.carryOut());
        row("no clock comes", x, "count", 9999, 0, 0, 0, 0);
        Due.is("so that one can come", 1, x.clock());
        x.undo();
        x.undo();
        x.undo();
        x.pass(97);
        Packed.putAll(x, "c5;r");
        Due.is("two nanoseconds are left", 2, x.carryOut());
        row("two clocks come", x, "count", 9999, 0, 2, 2, 0);
    }

    private static void faultIsTheFirst() {
        Due.about("the index of the first character that cannot stand at its place");
        faultOf("x", 0);
        faultOf(";", 0);
        faultOf("xx;", 0);
        faultOf("c;;", 2);
        faultOf("cc", 1);
        faultOf("r0", 1);
        faultOf("w=", 1);
        faultOf("d0;", 2);
        faultOf("d0==", 3);
        faultOf("d0=;", 3);
        faultOf("d0=5=", 4);
        faultOf("c10c", 3);
        faultOf("r;".repeat(39) + "rr", 79);
        faultOf("r;".repeat(39) + "xr", 78);
        Due.about("also of a digit by which a number would be above 99");
        faultOf("c999", 3);
        faultOf("r;t100;x", 5);
        faultOf("d9=1000", 5);
    }

    private static void faultOfATextThatEndsTooEarly() {
        Due.about("if there is none and the text ends too early (also if it is empty), it is the length of the text");
        String[] texts = {"", "t", "d", "d0", "d0=", "c;", "r;", "c9;t", "w;d9="};
        for (String text : texts) {
            faultOf(text, text.length());
        }
        faultOf("c9;" + "r;".repeat(38) + "t", 80);
        faultOf("c;".repeat(40), 80);
    }
}
