/** Long runs of mixed calls, each answered by the program and by the slow counter; the runs are always the same. */
public final class RandomRunsTests {
    private static final int RUNS = 2000;
    /** Behind these a run asks everything, so that it stays below the 512 calls for which a counter is used. */
    private static final int MOST_CALLS = 260;
    private static final int MOODS = 7;

    private static long seed;

    public static void main(String[] args) {
        for (int run = 0; run < RUNS && Due.wrongOnes() == 0; run++) {
            seed = run * 7919L + 1;
            oneRun(run);
        }
        Due.end();
    }

    private static void oneRun(int run) {
        RippleCounts fast = new RippleCounts();
        SlowCounter slow = new SlowCounter();
        int mood = run % MOODS;
        int begun = Due.asked();
        if (mood == 5) {
            nearTheTimesEnd(fast, slow);
        } else if (mood == 6) {
            nearTooManyReadings(fast, slow);
        }
        int calls = 80 + pick(MOST_CALLS - 80);
        while (Due.asked() - begun < calls && Due.wrongOnes() == 0) {
            String where = "run " + run + ", call " + (Due.asked() - begun) + ": ";
            if (mood == 4 && pick(4) == 0) {
                slowStages(where, fast, slow);
            } else if (pick(2) == 0) {
                change(where, fast, slow, mood);
            } else if (pick(3) == 0) {
                text(where, fast, slow, mood);
            } else {
                ask(where, fast, slow);
            }
        }
        askAll("run " + run + ", at its end: ", fast, slow);
        Due.is("run " + run + ": calls of one counter", 1, Due.asked() - begun <= 512 ? 1 : 0);
    }

    private static void nearTheTimesEnd(RippleCounts fast, SlowCounter slow) {
        for (int i = 0; i < 5; i++) {
            carried(fast, slow, "t99;".repeat(19) + "t99");
        }
    }

    private static void nearTooManyReadings(RippleCounts fast, SlowCounter slow) {
        carried(fast, slow, "r;".repeat(39) + "r");
        carried(fast, slow, "c9;" + "r;".repeat(38) + "r");
        carried(fast, slow, "r;r;r;c3;r;r;r;r;r;r;r;r");
    }

    private static void carried(RippleCounts fast, SlowCounter slow, String text) {
        for (int from = 0; from < text.length(); from += 8) {
            long characters = Packed.of(text.substring(from, Math.min(text.length(), from + 8)));
            Due.is("put " + characters, slow.put(characters), fast.put(characters));
        }
        Due.is("carryOut of '" + text + "'", slow.carryOut(), fast.carryOut());
    }

    private static int pick(int below) {
        seed = seed * 6364136223846793005L + 1442695040888963407L;
        return (int) ((seed >>> 33) % below);
    }

    private static int oftenGood(int from, int to) {
        return pick(20) == 0 ? from - 1 + pick(2) * (to - from + 2) : from + pick(to - from + 1);
    }

    private static void slowStages(String where, RippleCounts fast, SlowCounter slow) {
        int stage = pick(3);
        int down = 20 - pick(19);
        Due.is(where + "clock", slow.clock(), fast.clock());
        Due.is(where + "delay " + stage + ", " + down, slow.delay(stage, down), fast.delay(stage, down));
        Due.is(where + "pass 1", slow.pass(1), fast.pass(1));
    }

    private static void change(String where, RippleCounts fast, SlowCounter slow, int mood) {
        int kind = pick(32);
        if (kind == 0 && mood != 1 && mood != 6) {
            int value = oftenGood(1, 5);
            Due.is(where + "set STAGES " + value, slow.set(0, value), fast.set(0, value));
        } else if (kind == 1) {
            int value = oftenGood(0, 20);
            Due.is(where + "set HOLD " + value, slow.set(1, value), fast.set(1, value));
        } else if (kind < 5) {
            int stage = oftenGood(0, 4);
            int value = oftenGood(1, 20);
            Due.is(where + "delay " + stage + ", " + value, slow.delay(stage, value), fast.delay(stage, value));
        } else if (kind < 12) {
            Due.is(where + "clock", slow.clock(), fast.clock());
        } else if (kind < 18) {
            int many = mood == 2 || mood == 5 ? oftenGood(1, 99) : oftenGood(1, 8);
            Due.is(where + "pass " + many, slow.pass(many), fast.pass(many));
        } else if (kind < 22) {
            Due.is(where + "read", slow.read(), fast.read());
        } else if (kind < 26) {
            Due.is(where + "latch", slow.latch(), fast.latch());
        } else if (kind < 28) {
            Due.is(where + "undo", slow.undo(), fast.undo());
        } else if (kind < 30) {
            int slot = oftenGood(0, 1);
            Due.is(where + "save " + slot, slow.save(slot), fast.save(slot));
        } else if (mood != 1) {
            int slot = oftenGood(0, 1);
            Due.is(where + "restore " + slot, slow.restore(slot), fast.restore(slot));
        }
    }

    private static void text(String where, RippleCounts fast, SlowCounter slow, int mood) {
        if (pick(12) == 0) {
            Due.is(where + "wipe", slow.wipe(), fast.wipe());
        }
        for (int left = 1 + pick(4); left > 0; left--) {
            long characters = pick(20) == 0 ? oddCharacters() : orders(mood);
            Due.is(where + "put " + characters, slow.put(characters), fast.put(characters));
        }
        Due.is(where + "fault", slow.fault(), fast.fault());
        Due.is(where + "carryOut", slow.carryOut(), fast.carryOut());
        if (pick(2) == 0) {
            Due.is(where + "wipe behind", slow.wipe(), fast.wipe());
        }
    }

    private static long oddCharacters() {
        long number = 0;
        for (int i = pick(9); i > 0; i--) {
            number = number << 8 | pick(pick(2) == 0 ? 128 : 256);
        }
        return number;
    }

    private static long orders(int mood) {
        String[] parts = {"c", "c3", "c0", "t4", "t0", "d0=2", "d2=20", "d1=1", "r", "w", "c12", "t17", "d4=5"};
        String signs = "ctdrw;=0123456789x";
        StringBuilder text = new StringBuilder();
        while (text.length() < 8) {
            if (mood == 3 && pick(8) == 0) {
                text.append(signs.charAt(pick(signs.length())));
            }
            text.append(parts[pick(parts.length)]).append(';');
        }
        String packed = text.substring(0, Math.min(text.length(), 8));
        if (packed.endsWith(";") && pick(2) == 0) {
            packed = packed.substring(0, packed.length() - 1);
        }
        return Packed.of(packed);
    }

    private static void ask(String where, RippleCounts fast, SlowCounter slow) {
        int what = oftenGood(0, 4);
        int kind = pick(10);
        if (kind == 0) {
            int stage = oftenGood(0, 4);
            Due.is(where + "of " + stage + ", " + what, slow.of(stage, what), fast.of(stage, what));
        } else if (kind == 1) {
            int reading = oftenGood(0, Math.max(0, slow.count(4) - 1));
            Due.is(where + "reading " + reading + ", " + what, slow.reading(reading, what), fast.reading(reading, what));
        } else if (kind == 2) {
            int rank = oftenGood(0, 8);
            Due.is(where + "seen " + rank + ", " + what, slow.seen(rank, what), fast.seen(rank, what));
        } else if (kind == 3) {
            int number = oftenGood(0, 13);
            Due.is(where + "count " + number, slow.count(number), fast.count(number));
        } else if (kind == 4) {
            Due.is(where + "stillIn", slow.stillIn(), fast.stillIn());
        } else if (kind == 5) {
            int many = oftenGood(0, 99);
            Due.is(where + "showsIn " + many, slow.showsIn(many), fast.showsIn(many));
        } else if (kind == 6) {
            int gap = oftenGood(1, 50);
            Due.is(where + "wrong " + gap, slow.wrong(gap), fast.wrong(gap));
        } else if (kind == 7) {
            Due.is(where + "fault", slow.fault(), fast.fault());
        } else if (kind == 8 && pick(4) == 0) {
            Due.is(where + "safeGap", slow.safeGap(), fast.safeGap());
        } else if (kind == 9 && pick(8) == 0) {
            Due.is(where + "toBlame 0", slow.toBlame(0), fast.toBlame(0));
            Due.is(where + "toBlame 1", slow.toBlame(1), fast.toBlame(1));
        }
    }

    private static void askAll(String where, RippleCounts fast, SlowCounter slow) {
        for (int what = -1; what <= 14; what++) {
            Due.is(where + "count " + what, slow.count(what), fast.count(what));
        }
        for (int stage = -1; stage <= 5; stage++) {
            for (int what = -1; what <= 5; what++) {
                Due.is(where + "of " + stage + ", " + what, slow.of(stage, what), fast.of(stage, what));
            }
        }
        int size = slow.count(4);
        for (int reading = 0; reading <= size; reading++) {
            for (int what = 0; what < 5 && (reading < 4 || reading > size - 4); what++) {
                Due.is(where + "reading " + reading + ", " + what, slow.reading(reading, what), fast.reading(reading, what));
            }
        }
        int numbers = Integer.bitCount(slow.count(6));
        for (int rank = 0; rank <= numbers && rank <= 32; rank++) {
            for (int what = 0; what < 4; what++) {
                Due.is(where + "seen " + rank + ", " + what, slow.seen(rank, what), fast.seen(rank, what));
            }
        }
        Due.is(where + "stillIn", slow.stillIn(), fast.stillIn());
    }
}
