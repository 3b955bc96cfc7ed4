import java.util.LinkedHashMap;
import java.util.Map;

/** What a counter answers to the calls that change nothing: each call with its answer, some 250 calls at most. */
final class Snapshot {
    private final RippleCounts counter;
    private final Map<String, Integer> answers = new LinkedHashMap<>();

    private Snapshot(RippleCounts counter) {
        this.counter = counter;
    }

    static Map<String, Integer> of(RippleCounts counter) {
        Snapshot snapshot = new Snapshot(counter);
        snapshot.counts();
        snapshot.stages();
        snapshot.readings();
        snapshot.seen();
        snapshot.whatIf();
        return snapshot.answers;
    }

    private void counts() {
        for (int what = 0; what <= 13; what++) {
            answers.put("count(" + what + ")", counter.count(what));
        }
        answers.put("fault()", counter.fault());
    }

    private void stages() {
        for (int stage = 0; stage < counter.count(10); stage++) {
            for (int what = 0; what <= 4; what++) {
                answers.put("of(" + stage + ", " + what + ")", counter.of(stage, what));
            }
        }
    }

    /** The first and the last readings: all 99 would be too many calls for one counter. */
    private void readings() {
        int size = counter.count(4);
        for (int reading = 0; reading <= size; reading++) {
            if (reading < 3 || reading > size - 3) {
                for (int what = 0; what <= 4; what++) {
                    answers.put("reading(" + reading + ", " + what + ")", counter.reading(reading, what));
                }
            }
        }
    }

    private void seen() {
        int size = Integer.bitCount(counter.count(6));
        for (int rank = 0; rank <= size; rank++) {
            for (int what = 0; what <= 3; what++) {
                answers.put("seen(" + rank + ", " + what + ")", counter.seen(rank, what));
            }
        }
    }

    private void whatIf() {
        answers.put("stillIn()", counter.stillIn());
        int[] manies = {0, 1, 2, 3, 5, 8, 13, 21, 34, 55, 99};
        for (int many : manies) {
            answers.put("showsIn(" + many + ")", counter.showsIn(many));
        }
        int[] gaps = {1, 4, 11, 50};
        for (int gap : gaps) {
            answers.put("wrong(" + gap + ")", counter.wrong(gap));
        }
        answers.put("safeGap()", counter.safeGap());
        answers.put("toBlame(0)", counter.toBlame(0));
        answers.put("toBlame(1)", counter.toBlame(1));
    }
}
