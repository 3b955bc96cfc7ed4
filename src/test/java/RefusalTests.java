import java.util.ArrayList;
import java.util.LinkedHashMap;
import java.util.List;
import java.util.Map;
import java.util.function.Consumer;
import java.util.function.ToIntFunction;

/**
 * Each call that is refused, in each of some states: its error, the order in which errors are checked, and that it
 * leaves everything as it was. For the last a counter that refused a call is compared with a twin that never got it,
 * now and behind each of some further calls: these bring to light what no call tells (the history, the slots, the
 * pad's characters, whether a clock came at this time).
 */
public final class RefusalTests {
    private static final int NO_SUCH = -1, BAD_VALUE = -2, BAD_TEXT = -3, TOO_MANY = -4, NOT_POSSIBLE = -5;
    private static final int STAGES = RippleCounts.STAGES, HOLD = RippleCounts.HOLD;
    private static final int[] FAR = {Integer.MIN_VALUE, Integer.MIN_VALUE + 1, -1000, 1000, Integer.MAX_VALUE};

    private static final Map<String, Consumer<RippleCounts>> STATES = new LinkedHashMap<>();
    private static final Map<String, ToIntFunction<RippleCounts>> LATER = new LinkedHashMap<>();

    private static final List<Refusal> REFUSALS = new ArrayList<>();

    private static String state;

    /** A call that is refused in a state. */
    private static final class Refusal {
        private final String state;
        private final String call;
        private final int error;
        private final ToIntFunction<RippleCounts> made;

        private Refusal(String state, String call, int error, ToIntFunction<RippleCounts> made) {
            this.state = state;
            this.call = call;
            this.error = error;
            this.made = made;
        }
    }

    public static void main(String[] args) {
        states();
        later();
        for (String name : STATES.keySet()) {
            state = name;
            badSettings();
            badDelays();
            badPasses();
            badQuestions();
            badWhatIfs();
            badCharacters();
            badSlots();
        }
        everyCodeAtEveryPlace();
        notPossibleNow();
        firstErrorThatApplies();
        oneErrorBehindTheOther();
        Due.end();
    }

    // ---- the states in which calls are refused, and the calls that show whether anything changed

    private static void states() {
        STATES.put("new", x -> { });
        STATES.put("busy", RefusalTests::busy);
        STATES.put("one stage", x -> {
            x.set(STAGES, 1);
            Packed.putAll(x, "c3;r;t2");
            x.carryOut();
            x.clock();
            Packed.putAll(x, "c3;x");
        });
        STATES.put("the time's end", x -> {
            for (int i = 0; i < 100; i++) {
                x.pass(99);
            }
            x.clock();
            x.pass(98);
            x.save(1);
            x.pass(1);
            x.clock();
            x.put(Packed.of("c2;t1"));
        });
        STATES.put("99 readings", x -> {
            x.clock();
            x.pass(1);
            for (int i = 0; i < 99; i++) {
                x.read();
            }
            Packed.putAll(x, "r;".repeat(39) + "c9");
        });
        STATES.put("98 readings and a latch", x -> {
            x.clock();
            for (int i = 0; i < 98; i++) {
                x.read();
            }
            x.latch();
            Packed.putAll(x, "r;".repeat(40));
        });
        STATES.put("one change", x -> {
            x.set(STAGES, 2);
            x.put(Packed.of("t3;w"));
        });
    }

    private static void busy(RippleCounts x) {
        x.set(STAGES, 5);
        x.save(0);
        for (int stage = 0; stage < 5; stage++) {
            x.delay(stage, 2 + stage);
        }
        Packed.putAll(x, "c9;r;w;t1;c3;r;t2;c");
        x.carryOut();
        x.save(1);
        x.pass(1);
        x.delay(0, 9);
        x.clock();
        x.pass(2);
        x.read();
        x.clock();
        Packed.putAll(x, "t9;d4=20;c3;r;w");
    }

    private static void later() {
        LATER.put("nothing", x -> 0);
        LATER.put("clock()", x -> x.clock());
        LATER.put("read()", x -> x.read());
        LATER.put("latch()", x -> x.latch());
        LATER.put("pass(1)", x -> x.pass(1));
        LATER.put("pass(40)", x -> x.pass(40));
        LATER.put("set(STAGES, 5)", x -> x.set(STAGES, 5));
        LATER.put("restore(0)", x -> x.restore(0));
        LATER.put("restore(1)", x -> x.restore(1));
        LATER.put("carryOut()", x -> x.carryOut());
        LATER.put("wipe()", x -> x.wipe());
        LATER.put("put('r')", x -> x.put('r'));
        for (int many = 1; many <= 7; many++) {
            int times = many;
            LATER.put(many + " times undo()", x -> {
                int answer = 0;
                for (int i = 0; i < times; i++) {
                    answer = x.undo();
                }
                return answer;
            });
        }
    }

    private static RippleCounts inState() {
        RippleCounts x = new RippleCounts();
        STATES.get(state).accept(x);
        return x;
    }

    private static void refused(String call, int error, ToIntFunction<RippleCounts> made) {
        REFUSALS.add(new Refusal(state, call, error, made));
        Due.about(state);
        Due.is(call, error, made.applyAsInt(inState()));
        Due.is(call + ", once more", error, again(made));
        Due.about("A call that returns an error changes nothing");
        for (String name : LATER.keySet()) {
            RippleCounts twin = inState();
            RippleCounts x = inState();
            made.applyAsInt(x);
            String where = state + ", " + call + ", then " + name;
            Due.is(where, LATER.get(name).applyAsInt(twin), LATER.get(name).applyAsInt(x));
            Due.same(where, Snapshot.of(twin), Snapshot.of(x));
        }
    }

    private static int again(ToIntFunction<RippleCounts> made) {
        RippleCounts x = inState();
        made.applyAsInt(x);
        return made.applyAsInt(x);
    }

    // ---- calls that are refused in each state

    private static void badSettings() {
        refused("set(-1, 2)", BAD_VALUE, x -> x.set(-1, 2));
        refused("set(2, 2)", BAD_VALUE, x -> x.set(2, 2));
        refused("set(STAGES, 0)", BAD_VALUE, x -> x.set(STAGES, 0));
        refused("set(STAGES, 6)", BAD_VALUE, x -> x.set(STAGES, 6));
        refused("set(STAGES, -1)", BAD_VALUE, x -> x.set(STAGES, -1));
        refused("set(STAGES, 20)", BAD_VALUE, x -> x.set(STAGES, 20));
        refused("set(HOLD, -1)", BAD_VALUE, x -> x.set(HOLD, -1));
        refused("set(HOLD, 21)", BAD_VALUE, x -> x.set(HOLD, 21));
        for (int far : FAR) {
            Due.is("set of " + far, BAD_VALUE, inState().set(far, 2));
            Due.is("STAGES " + far, BAD_VALUE, inState().set(STAGES, far));
            Due.is("HOLD " + far, BAD_VALUE, inState().set(HOLD, far));
        }
    }

    private static void badDelays() {
        int stages = inState().count(10);
        refused("delay(-1, 5)", NO_SUCH, x -> x.delay(-1, 5));
        refused("delay(" + stages + ", 5)", NO_SUCH, x -> x.delay(stages, 5));
        refused("delay(0, 0)", BAD_VALUE, x -> x.delay(0, 0));
        refused("delay(0, 21)", BAD_VALUE, x -> x.delay(0, 21));
        refused("delay(" + (stages - 1) + ", 0)", BAD_VALUE, x -> x.delay(stages - 1, 0));
        for (int far : FAR) {
            Due.is("delay of " + far, NO_SUCH, inState().delay(far, 5));
            Due.is("delay " + far, BAD_VALUE, inState().delay(0, far));
        }
    }

    private static void badPasses() {
        refused("pass(0)", BAD_VALUE, x -> x.pass(0));
        refused("pass(-1)", BAD_VALUE, x -> x.pass(-1));
        refused("pass(100)", BAD_VALUE, x -> x.pass(100));
        for (int far : FAR) {
            Due.is("pass " + far, BAD_VALUE, inState().pass(far));
        }
    }

    private static void badQuestions() {
        int stages = inState().count(10);
        int readings = inState().count(4);
        int numbers = Integer.bitCount(inState().count(6));
        refused("of(-1, 0)", NO_SUCH, x -> x.of(-1, 0));
        refused("of(" + stages + ", 0)", NO_SUCH, x -> x.of(stages, 0));
        refused("of(0, -1)", BAD_VALUE, x -> x.of(0, -1));
        refused("of(0, 5)", BAD_VALUE, x -> x.of(0, 5));
        refused("reading(-1, 0)", NO_SUCH, x -> x.reading(-1, 0));
        refused("reading(" + readings + ", 0)", NO_SUCH, x -> x.reading(readings, 0));
        refused("reading(0, -1)", readings > 0 ? BAD_VALUE : NO_SUCH, x -> x.reading(0, -1));
        refused("reading(0, 5)", readings > 0 ? BAD_VALUE : NO_SUCH, x -> x.reading(0, 5));
        refused("seen(-1, 0)", NO_SUCH, x -> x.seen(-1, 0));
        refused("seen(" + numbers + ", 0)", NO_SUCH, x -> x.seen(numbers, 0));
        refused("seen(0, -1)", numbers > 0 ? BAD_VALUE : NO_SUCH, x -> x.seen(0, -1));
        refused("seen(0, 4)", numbers > 0 ? BAD_VALUE : NO_SUCH, x -> x.seen(0, 4));
        refused("count(-1)", BAD_VALUE, x -> x.count(-1));
        refused("count(14)", BAD_VALUE, x -> x.count(14));
        for (int far : FAR) {
            Due.is("of " + far, NO_SUCH, inState().of(far, 0));
            Due.is("of 0, " + far, BAD_VALUE, inState().of(0, far));
            Due.is("reading " + far, NO_SUCH, inState().reading(far, 0));
            Due.is("reading 0, " + far, readings > 0 ? BAD_VALUE : NO_SUCH, inState().reading(0, far));
            Due.is("seen " + far, NO_SUCH, inState().seen(far, 0));
            Due.is("seen 0, " + far, numbers > 0 ? BAD_VALUE : NO_SUCH, inState().seen(0, far));
            Due.is("count " + far, BAD_VALUE, inState().count(far));
        }
    }

    private static void badWhatIfs() {
        refused("showsIn(-1)", BAD_VALUE, x -> x.showsIn(-1));
        refused("showsIn(100)", BAD_VALUE, x -> x.showsIn(100));
        refused("wrong(0)", BAD_VALUE, x -> x.wrong(0));
        refused("wrong(-1)", BAD_VALUE, x -> x.wrong(-1));
        refused("wrong(51)", BAD_VALUE, x -> x.wrong(51));
        refused("toBlame(-1)", BAD_VALUE, x -> x.toBlame(-1));
        refused("toBlame(2)", BAD_VALUE, x -> x.toBlame(2));
        for (int far : FAR) {
            Due.is("showsIn " + far, BAD_VALUE, inState().showsIn(far));
            Due.is("wrong " + far, BAD_VALUE, inState().wrong(far));
            Due.is("toBlame " + far, BAD_VALUE, inState().toBlame(far));
        }
    }

    private static void badCharacters() {
        refused("put(0)", BAD_VALUE, x -> x.put(0));
        refused("put(32)", BAD_VALUE, x -> x.put(32));
        refused("put(127)", BAD_VALUE, x -> x.put(127));
        refused("put('r', 0)", BAD_VALUE, x -> x.put('r' << 8));
        refused("put('r', 0, 'r')", BAD_VALUE, x -> x.put('r' << 16 | 'r'));
        refused("put(' ', 'r')", BAD_VALUE, x -> x.put(' ' << 8 | 'r'));
        refused("put(0x80 and 7 characters)", BAD_VALUE, x -> x.put(0x8072727272727272L));
        for (int bit = 8; bit < 64; bit++) {
            Due.is("a bit above 8 bits that are 0", BAD_VALUE, inState().put(1L << bit));
            if (bit >= 16) {
                Due.is("a bit above a character and 8 bits that are 0", BAD_VALUE, inState().put(1L << bit | 'r'));
            }
        }
    }

    private static void everyCodeAtEveryPlace() {
        Due.about("BAD_VALUE if there is no character, a code is not 33 to 126, or a bit above 8 bits that are 0 is not 0");
        for (int place = 0; place < 8; place++) {
            int bits = 8 * place;
            for (int code = 0; code < 256; code++) {
                long characters = 0x7272727272727272L & ~(255L << bits) | (long) code << bits;
                int length = code >= 33 && code <= 126 ? 8 : code == 0 && place == 7 ? 7 : 0;
                RippleCounts x = new RippleCounts();
                Due.is("code " + code + " at " + place, length == 0 ? BAD_VALUE : length, x.put(characters));
                Due.is("length behind code " + code + " at " + place, length, x.count(12));
            }
        }
    }

    private static void badSlots() {
        refused("save(-1)", BAD_VALUE, x -> x.save(-1));
        refused("save(2)", BAD_VALUE, x -> x.save(2));
        refused("restore(-1)", BAD_VALUE, x -> x.restore(-1));
        refused("restore(2)", BAD_VALUE, x -> x.restore(2));
        for (int far : FAR) {
            Due.is("save " + far, BAD_VALUE, inState().save(far));
            Due.is("restore " + far, BAD_VALUE, inState().restore(far));
        }
    }

    // ---- calls that are refused in some states

    private static void notPossibleNow() {
        state = "new";
        refused("undo()", NOT_POSSIBLE, x -> x.undo());
        refused("restore(0)", NOT_POSSIBLE, x -> x.restore(0));
        refused("restore(1)", NOT_POSSIBLE, x -> x.restore(1));
        refused("carryOut()", BAD_TEXT, x -> x.carryOut());
        state = "busy";
        refused("clock()", NOT_POSSIBLE, x -> x.clock());
        refused("latch()", NOT_POSSIBLE, x -> x.latch());
        state = "one stage";
        refused("clock()", NOT_POSSIBLE, x -> x.clock());
        refused("carryOut()", BAD_TEXT, x -> x.carryOut());
        refused("restore(0)", NOT_POSSIBLE, x -> x.restore(0));
        state = "the time's end";
        refused("clock()", NOT_POSSIBLE, x -> x.clock());
        refused("pass(1)", NOT_POSSIBLE, x -> x.pass(1));
        refused("pass(99)", NOT_POSSIBLE, x -> x.pass(99));
        refused("restore(0)", NOT_POSSIBLE, x -> x.restore(0));
        state = "99 readings";
        refused("read()", TOO_MANY, x -> x.read());
        refused("latch()", TOO_MANY, x -> x.latch());
        refused("put('r')", TOO_MANY, x -> x.put('r'));
        refused("put(8 characters)", TOO_MANY, x -> x.put(Packed.of("r;r;r;r;")));
        state = "98 readings and a latch";
        refused("read()", TOO_MANY, x -> x.read());
        refused("latch()", NOT_POSSIBLE, x -> x.latch());
        refused("clock()", NOT_POSSIBLE, x -> x.clock());
        refused("put('r')", TOO_MANY, x -> x.put('r'));
        refused("carryOut()", BAD_TEXT, x -> x.carryOut());
    }

    private static void firstErrorThatApplies() {
        for (String name : STATES.keySet()) {
            state = name;
            int stages = inState().count(10);
            int readings = inState().count(4);
            int numbers = Integer.bitCount(inState().count(6));
            refused("no stage ahead of a delay out of range", NO_SUCH, x -> x.delay(-1, 0));
            refused("no stage ahead of a delay out of range", NO_SUCH, x -> x.delay(stages, 21));
            refused("no stage ahead of what", NO_SUCH, x -> x.of(-1, -1));
            refused("no stage ahead of what", NO_SUCH, x -> x.of(stages, 5));
            refused("no reading ahead of what", NO_SUCH, x -> x.reading(-1, -1));
            refused("no reading ahead of what", NO_SUCH, x -> x.reading(readings, 5));
            refused("no rank ahead of what", NO_SUCH, x -> x.seen(-1, -1));
            refused("no rank ahead of what", NO_SUCH, x -> x.seen(numbers, 4));
        }
        state = "the time's end";
        refused("many out of range ahead of the time's end", BAD_VALUE, x -> x.pass(0));
        refused("many out of range ahead of the time's end", BAD_VALUE, x -> x.pass(100));
        state = "98 readings and a latch";
        refused("a code out of range ahead of a full pad", BAD_VALUE, x -> x.put(0));
        refused("a code out of range ahead of a full pad", BAD_VALUE, x -> x.put(32));
        refused("a code out of range ahead of a full pad", BAD_VALUE, x -> x.put('r' << 8));
        refused("no slot ahead of nothing saved", BAD_VALUE, x -> x.restore(2));
        refused("it waits already ahead of too many readings", NOT_POSSIBLE, x -> x.latch());
    }

    /** All calls that are refused in a state, one behind the other on one counter. */
    private static void oneErrorBehindTheOther() {
        for (String name : STATES.keySet()) {
            state = name;
            RippleCounts twin = inState();
            RippleCounts x = inState();
            Due.about(state);
            for (Refusal refusal : REFUSALS) {
                if (refusal.state.equals(state)) {
                    Due.is(refusal.call + ", behind others", refusal.error, refusal.made.applyAsInt(x));
                }
            }
            Due.about("A call that returns an error changes nothing");
            Due.same(state + ", all errors", Snapshot.of(twin), Snapshot.of(x));
            Due.is(state + ", all errors, then undo()", twin.undo(), x.undo());
            Due.same(state + ", all errors, then undo()", Snapshot.of(twin), Snapshot.of(x));
        }
    }
}
