import java.util.Map;

/** Counts the answers that are not the ones that are due. */
final class Due {
    private static int asked = 0;
    private static int wrong = 0;
    private static String sentence = "";

    private Due() {
    }

    /** The sentence of the document that the next answers are about. */
    static void about(String words) {
        sentence = "\"" + words + "\": ";
    }

    static void is(String what, long want, long got) {
        asked++;
        if (got != want) {
            wrong++;
            System.out.println(sentence + what + ": answered " + got + ", due is " + want);
        }
    }

    /** Two counters that are due to be alike; of those that are not, the first answer that differs is told. */
    static void same(String what, Map<String, Integer> want, Map<String, Integer> got) {
        asked++;
        if (want.equals(got)) {
            return;
        }
        wrong++;
        for (String call : want.keySet()) {
            if (!want.get(call).equals(got.get(call))) {
                System.out.println(sentence + what + ": " + call + " answered " + got.get(call) + ", due is "
                    + want.get(call));
                return;
            }
        }
        System.out.println(sentence + what + ": answered more than is due");
    }

    static int asked() {
        return asked;
    }

    static int wrongOnes() {
        return wrong;
    }

    static void end() {
        System.out.println(asked + " answers, " + wrong + " of them not as due");
        if (wrong != 0) {
            System.exit(1);
        }
    }
}
