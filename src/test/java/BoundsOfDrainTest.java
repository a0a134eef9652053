/** The boundary cases of promises 6 and 7, and which entry lets which pass. */
final class BoundsOfDrainTest {
    private static final Check check = new Check();
    private static final int NONE = StoreBufferCores.NONE;

    // In the order of the kinds: STORE, FLUSH, LAZY, ORDER.
    private static final int[] KIND_CODES = {Codes.STORE, Codes.FLUSH, Codes.LAZY, Codes.ORDER};

    // Rows are the older entry, columns the later one, both in the order of the kinds.
    private static final String[] SAME_LINE = {"....", "....", "p.p.", "...."};
    private static final String[] OTHER_LINE = {"..p.", "..p.", "ppp.", "...."};

    public static void main(String[] args) {
        drainOfNoCore();
        drainOfNoEntry();
        drainOfAnEmptyBuffer();
        drainOfFirstAndLastEntry();
        everyPairOfEntries();
        everyOlderEntryMustLetPass();
        laterEntriesMoveUp();
        drainLeavesOtherBuffersAlone();
        drainMindsItsOwnBufferAlone();
        settleOfNoCore();
        settleOfAnEmptyBuffer();
        settleOfEveryCount();
        settleTakesTheOldestFirst();
        check.end();
    }

    private static void drainIsRefused(int cores, int core, int k) {
        Twins.unchanged(check, "drain(" + core + ", " + k + ")", () -> LivedIn.with(cores),
            x -> x.drain(core, k), false);
    }

    private static void drainOfNoCore() {
        check.about("Promise 6, there is no such core");
        for (int cores = 2; cores <= 4; cores++) {
            for (int core : Codes.outside(cores)) {
                drainIsRefused(cores, core, 0);
            }
        }
    }

    private static void drainOfNoEntry() {
        check.about("Promise 6, there is no such entry");
        for (int k : Codes.outside(LivedIn.PENDING)) {
            drainIsRefused(2, 0, k);
            drainIsRefused(3, 2, k);
        }
        for (int entries = 1; entries <= 8; entries++) {
            int count = entries;
            Twins.unchanged(check, "drain(0, " + count + ") of " + count,
                () -> lazyFlushes(count), x -> x.drain(0, count), false);
        }
    }

    private static void drainOfAnEmptyBuffer() {
        check.about("Promise 6, there is no entry at all");
        for (int k : new int[] {0, 1, 7, -1}) {
            Twins.unchanged(check, "drain(1, " + k + ")", BoundsOfDrainTest::settled,
                x -> x.drain(1, k), false);
        }
        StoreBufferCores x = new StoreBufferCores(2, 4);
        check.due("drain(0, 0) of a new object", x.drain(0, 0), false);
    }

    /** The object's core 1 has had entries, and core 0 still has. */
    private static StoreBufferCores settled() {
        StoreBufferCores x = LivedIn.with(2);
        x.settle(1);
        return x;
    }

    /** Each may pass each: lazy flushes of lines 7, 6, .. in a buffer with room for eight. */
    private static StoreBufferCores lazyFlushes(int count) {
        StoreBufferCores x = new StoreBufferCores(2, 8);
        for (int i = 0; i < count; i++) {
            x.put(0, i, Codes.LAZY, 0, 0, 31 - 4 * i);
        }
        x.run(0, count);
        return x;
    }

    private static void drainOfFirstAndLastEntry() {
        check.about("Promise 6, the first and the last entry");
        for (int entries = 1; entries <= 8; entries++) {
            StoreBufferCores x = lazyFlushes(entries);
            check.due("drain(0, " + (entries - 1) + ")", x.drain(0, entries - 1), true);
            check.due("pending(0)", x.pending(0), entries - 1);
            StoreBufferCores other = lazyFlushes(entries);
            check.due("drain(0, 0)", other.drain(0, 0), true);
            check.due("pending(0)", other.pending(0), entries - 1);
        }
    }

    private static boolean passes(int older, int olderWord, int later, int laterWord) {
        String[] table = olderWord / 4 == laterWord / 4 ? SAME_LINE : OTHER_LINE;
        return table[older].charAt(later) == 'p';
    }

    private static void everyPairOfEntries() {
        check.about("LETS IT PASS");
        for (int older = 0; older < 4; older++) {
            for (int later = 0; later < 4; later++) {
                for (int olderWord : new int[] {4, 7}) {
                    for (int laterWord : new int[] {0, 3, 4, 5, 6, 7, 8, 31}) {
                        pair(older, olderWord, later, laterWord);
                    }
                }
            }
        }
    }

    private static void pair(int older, int olderWord, int later, int laterWord) {
        String call = "drain(0, 1) of kind " + later + " at word " + laterWord
            + " behind kind " + older + " at word " + olderWord;
        if (!passes(older, olderWord, later, laterWord)) {
            Twins.unchanged(check, call, () -> twoEntries(older, olderWord, later, laterWord),
                x -> x.drain(0, 1), false);
            return;
        }
        StoreBufferCores x = twoEntries(older, olderWord, later, laterWord);
        check.due(call, x.drain(0, 1), true);
        check.due("pending(0) after " + call, x.pending(0), 1);
        check.due("entry(0, 0, 0) after " + call, x.entry(0, 0, 0), older);
        int due = later == StoreBufferCores.STORE ? 5 : 0;
        check.due("memory(" + laterWord + ") after " + call, x.memory(laterWord), due);
        check.due("dirty after " + call, x.dirty(laterWord / 4), due == 5);
    }

    private static StoreBufferCores twoEntries(int older, int olderWord, int later, int laterWord) {
        StoreBufferCores x = Codes.with(2, 2, Codes.SET, 1, 0, 5,
            KIND_CODES[older], 1, 0, olderWord, KIND_CODES[later], 1, 0, laterWord);
        x.run(0, 3);
        return x;
    }

    private static void everyOlderEntryMustLetPass() {
        check.about("It may be done if each older entry LETS IT PASS");
        for (int first = 0; first < 8; first++) {
            for (int second = 0; second < 8; second++) {
                for (int third = 0; third < 8; third++) {
                    triple(first, second, third);
                }
            }
        }
    }

    /** Each of the three numbers tells a kind and one of two lines. */
    private static void triple(int first, int second, int third) {
        int[] words = {3 + first / 4, 3 + second / 4, 3 + third / 4};
        int[] kinds = {first % 4, second % 4, third % 4};
        StoreBufferCores x = Codes.with(2, 3, KIND_CODES[kinds[0]], 1, 0, words[0],
            KIND_CODES[kinds[1]], 1, 0, words[1], KIND_CODES[kinds[2]], 1, 0, words[2]);
        x.run(0, 3);
        boolean due = passes(kinds[0], words[0], kinds[2], words[2])
            && passes(kinds[1], words[1], kinds[2], words[2]);
        String of = " of " + first + ", " + second + ", " + third;
        check.due("drain(0, 2)" + of, x.drain(0, 2), due);
        check.due("pending(0)" + of, x.pending(0), due ? 2 : 3);
        check.due("drain(0, 1)" + of, x.drain(0, 1), passes(kinds[0], words[0], kinds[1], words[1]));
    }

    private static void laterEntriesMoveUp() {
        check.about("DRAINING takes it out, and later ones move up");
        for (int out = 0; out < 8; out++) {
            StoreBufferCores x = lazyFlushes(8);
            Codes.load(x, 0, Codes.SET, 1, 0, 6);
            x.put(0, 8, Codes.STORE, 1, 0, 30);
            check.due("drain(0, " + out + ")", x.drain(0, out), true);
            for (int k = 0; k < 7; k++) {
                int line = k < out ? 7 - k : 6 - k;
                check.due("entry(0, " + k + ", 1)", x.entry(0, k, 1), line);
            }
            check.due("entry(0, 7, 1)", x.entry(0, 7, 1), NONE);
            x.step(0);
            check.due("entry(0, 7, 1) of one more", x.entry(0, 7, 1), 30);
            check.due("entry(0, 7, 0) of one more", x.entry(0, 7, 0), StoreBufferCores.STORE);
        }
    }

    private static void drainLeavesOtherBuffersAlone() {
        check.about("Promise 6, entry k of one core's buffer");
        StoreBufferCores x = LivedIn.with(4);
        check.due("drain(3, 0)", x.drain(3, 0), true);
        check.due("drain(0, 1)", x.drain(0, 1), true);
        int[] pending = {2, 3, 3, 2};
        for (int core = 0; core < 4; core++) {
            check.due("pending(" + core + ")", x.pending(core), pending[core]);
        }
        check.due("entry(0, 0, 0)", x.entry(0, 0, 0), StoreBufferCores.LAZY);
        check.due("entry(3, 0, 0)", x.entry(3, 0, 0), StoreBufferCores.STORE);
    }

    private static void drainMindsItsOwnBufferAlone() {
        check.about("Promise 6, another core's entries neither hold back nor let pass");
        for (int held = 0; held < 2; held++) {
            StoreBufferCores x = new StoreBufferCores(2, 4);
            Codes.load(x, held, Codes.ORDER, 0, 0, 0, Codes.STORE, 0, 0, 8);
            Codes.load(x, 1 - held, Codes.LAZY, 0, 0, 0, Codes.STORE, 0, 0, 8);
            x.run(0, 2);
            x.run(1, 2);
            check.due("drain(" + held + ", 1) behind ORDER", x.drain(held, 1), false);
            check.due("drain(" + (1 - held) + ", 1) behind LAZY", x.drain(1 - held, 1), true);
        }
    }

    private static void settleOfNoCore() {
        check.about("Promise 7, NONE when there is no such core");
        for (int cores = 2; cores <= 4; cores++) {
            int count = cores;
            for (int core : Codes.outside(cores)) {
                Twins.unchanged(check, "settle(" + core + ")", () -> LivedIn.with(count),
                    x -> x.settle(core), NONE);
            }
        }
    }

    private static void settleOfAnEmptyBuffer() {
        check.about("Promise 7, no entries");
        Twins.unchanged(check, "settle(1)", BoundsOfDrainTest::settled, x -> x.settle(1), 0);
        check.due("settle(0) of a new object", new StoreBufferCores(2, 1).settle(0), 0);
    }

    private static void settleOfEveryCount() {
        check.about("Promise 7, how many entries there were");
        for (int kind = 0; kind < 4; kind++) {
            for (int room = 1; room <= 8; room++) {
                settleAll(kind, room);
            }
        }
    }

    private static void settleAll(int kind, int room) {
        StoreBufferCores x = new StoreBufferCores(3, room);
        for (int i = 0; i < room; i++) {
            x.put(1, i, KIND_CODES[kind], 0, 0, 4 * i);
            x.put(2, i, Codes.ORDER, 0, 0, 0);
        }
        x.run(1, room);
        x.run(2, room);
        String of = " of " + room + " of kind " + kind;
        check.due("settle(1)" + of, x.settle(1), room);
        check.due("pending(1)" + of, x.pending(1), 0);
        check.due("pending(2)" + of, x.pending(2), room);
        check.due("place(1)" + of, x.place(1), room);
        for (int line = 0; line < 8; line++) {
            boolean due = kind == StoreBufferCores.STORE && line < room;
            check.due("dirty(" + line + ")" + of, x.dirty(line), due);
        }
    }

    private static void settleTakesTheOldestFirst() {
        check.about("Promise 7, drains entry 0 until it is empty");
        StoreBufferCores x = Codes.with(2, 8, Codes.SET, 1, 0, 5, Codes.SET, 2, 0, 6,
            Codes.STORE, 1, 0, 31, Codes.LAZY, 0, 0, 28, Codes.STORE, 2, 0, 31,
            Codes.STORE, 1, 0, 0, Codes.STORE, 2, 0, 0, Codes.FLUSH, 0, 0, 3, Codes.STORE, 1, 0, 0);
        x.run(0, 9);
        check.due("settle(0)", x.settle(0), 7);
        check.due("memory(31)", x.memory(31), 6);
        check.due("storage(31)", x.storage(31), 5);
        check.due("memory(0)", x.memory(0), 5);
        check.due("storage(0)", x.storage(0), 6);
        check.due("dirty(7)", x.dirty(7), true);
        check.due("dirty(0)", x.dirty(0), true);
    }
}
