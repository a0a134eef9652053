/** Promises 6 and 7: drain and settle, and which entry lets which pass. */
final class DrainTest {
    private static final Check check = new Check();

    public static void main(String[] args) {
        everyOlderEntryMustLetPass();
        drainedStore();
        drainedFlushes();
        laterEntriesMoveUp();
        storeOverLazyFlushIsWrittenBackLater();
        settles();
        check.end();
    }

    private static void everyOlderEntryMustLetPass() {
        StoreBufferCores x = Codes.with(2, 8,
            Codes.FLUSH, 0, 0, 0, Codes.STORE, 0, 0, 4, Codes.LAZY, 0, 0, 8, Codes.LAZY, 0, 0, 12,
            Codes.LAZY, 0, 0, 0, Codes.LAZY, 0, 0, 4, Codes.STORE, 0, 0, 20, Codes.FLUSH, 0, 0, 20);
        x.run(0, 8);
        boolean[] free = {true, false, true, true, false, false, false, false};
        for (int k = 7; k >= 1; k--) {
            check.due("drain(0, " + k + ")", x.drain(0, k), free[k]);
        }
        check.due("pending(0)", x.pending(0), 6);
    }

    private static void drainedStore() {
        StoreBufferCores x = Codes.with(2, 4, Codes.SET, 1, 0, 7, Codes.STORE, 1, 0, 31);
        x.run(0, 2);
        check.due("memory(31)", x.memory(31), 0);
        check.due("dirty(7)", x.dirty(7), false);
        check.due("drain(0, 0)", x.drain(0, 0), true);
        check.due("memory(31)", x.memory(31), 7);
        check.due("storage(31)", x.storage(31), 0);
        check.due("dirty(7)", x.dirty(7), true);
        check.due("dirty(6)", x.dirty(6), false);
        check.due("pending(0)", x.pending(0), 0);
    }

    private static void drainedFlushes() {
        for (int code : new int[] {Codes.FLUSH, Codes.LAZY}) {
            StoreBufferCores x = Codes.with(2, 8,
                Codes.SET, 1, 0, 7, Codes.STORE, 1, 0, 4, Codes.STORE, 1, 0, 7,
                Codes.STORE, 1, 0, 3, Codes.STORE, 1, 0, 8, code, 0, 0, 6);
            x.run(0, 6);
            for (int k = 0; k < 4; k++) {
                x.drain(0, 0);
            }
            check.due("storage(4)", x.storage(4), 0);
            check.due("drain(0, 0)", x.drain(0, 0), true);
            int[] words = {3, 4, 5, 6, 7, 8};
            int[] stored = {0, 7, 0, 0, 7, 0};
            for (int i = 0; i < words.length; i++) {
                check.due("storage(" + words[i] + ")", x.storage(words[i]), stored[i]);
            }
            check.due("dirty(0)", x.dirty(0), true);
            check.due("dirty(1)", x.dirty(1), false);
            check.due("dirty(2)", x.dirty(2), true);
        }
    }

    private static void laterEntriesMoveUp() {
        StoreBufferCores x = Codes.with(2, 8,
            Codes.LAZY, 0, 0, 4, Codes.SET, 1, 0, 5, Codes.STORE, 1, 0, 9, Codes.ORDER, 0, 0, 0,
            Codes.STORE, 1, 0, 30, Codes.FLUSH, 0, 0, 28);
        x.run(0, 6);
        check.due("drain(0, 1)", x.drain(0, 1), true);
        int[] kinds = {StoreBufferCores.LAZY, StoreBufferCores.ORDER, StoreBufferCores.STORE,
            StoreBufferCores.FLUSH, StoreBufferCores.NONE};
        int[] targets = {1, 0, 30, 7, StoreBufferCores.NONE};
        int[] values = {0, 0, 5, 0, StoreBufferCores.NONE};
        for (int k = 0; k < kinds.length; k++) {
            check.due("entry(0, " + k + ", 0)", x.entry(0, k, 0), kinds[k]);
            check.due("entry(0, " + k + ", 1)", x.entry(0, k, 1), targets[k]);
            check.due("entry(0, " + k + ", 2)", x.entry(0, k, 2), values[k]);
        }
    }

    private static void storeOverLazyFlushIsWrittenBackLater() {
        StoreBufferCores x = Codes.with(2, 4,
            Codes.SET, 1, 0, 5, Codes.LAZY, 0, 0, 8, Codes.STORE, 1, 0, 9);
        x.run(0, 3);
        check.due("drain(0, 1)", x.drain(0, 1), true);
        check.due("dirty(2)", x.dirty(2), true);
        check.due("drain(0, 0)", x.drain(0, 0), true);
        check.due("storage(9)", x.storage(9), 5);
        check.due("dirty(2)", x.dirty(2), false);
    }

    private static void settles() {
        StoreBufferCores x = Codes.with(2, 8,
            Codes.SET, 1, 0, 5, Codes.STORE, 1, 0, 8, Codes.ADD, 1, 1, 0, Codes.LAZY, 0, 0, 8,
            Codes.STORE, 1, 0, 8, Codes.ORDER, 0, 0, 0, Codes.STORE, 1, 0, 0, Codes.FLUSH, 0, 0, 0);
        Codes.load(x, 1, Codes.ORDER, 0, 0, 0);
        x.run(0, 8);
        x.step(1);
        check.due("settle(0)", x.settle(0), 6);
        check.due("pending(0)", x.pending(0), 0);
        check.due("pending(1)", x.pending(1), 1);
        // The oldest first: the lazy flush leaves between the two stores to its line.
        check.due("memory(8)", x.memory(8), 10);
        check.due("storage(8)", x.storage(8), 5);
        check.due("storage(0)", x.storage(0), 10);
        check.due("dirty(2)", x.dirty(2), true);
        check.due("dirty(0)", x.dirty(0), false);
        check.due("settle(0)", x.settle(0), 0);
        for (int core : Codes.outside(2)) {
            check.due("settle(" + core + ")", x.settle(core), StoreBufferCores.NONE);
        }
    }
}
