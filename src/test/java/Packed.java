/** Texts as the numbers that put() takes. */
final class Packed {
    private Packed() {
    }

    static long of(String text) {
        long number = 0;
        for (int i = 0; i < text.length(); i++) {
            number = number << 8 | text.charAt(i);
        }
        return number;
    }

    static void putAll(RippleCounts counter, String text) {
        for (int from = 0; from < text.length(); from += 8) {
            counter.put(of(text.substring(from, Math.min(text.length(), from + 8))));
        }
    }
}
