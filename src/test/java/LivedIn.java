/**
 * An object in the midst of its life: each core has registers, a place, a recovery entry and a
 * program that are like no other's, and entries in its buffer; some lines are dirty, some written
 * back. It is made by 37 calls a core, so that Twins of it stay under 512 even with four cores.
 */
final class LivedIn {
    static final int PENDING = 3;

    private LivedIn() {
    }

    static StoreBufferCores with(int cores) {
        StoreBufferCores x = new StoreBufferCores(cores, 4);
        for (int core = 0; core < cores; core++) {
            fillMemoryAndBuffer(x, core);
            putProgram(x, core);
            x.recovery(core, 5 + core);
            x.run(core, core);
        }
        return x;
    }

    /** An object in which core 1 has put 100 + a into each word a of memory, and all are dirty. */
    static StoreBufferCores allDirty(int cores) {
        StoreBufferCores x = new StoreBufferCores(cores, 8);
        for (int first = 0; first < 32; first += 8) {
            for (int i = 0; i < 8; i++) {
                x.put(1, 2 * i, Codes.SET, 1, 0, 100 + first + i);
                x.put(1, 2 * i + 1, Codes.STORE, 1, 0, first + i);
            }
            x.put(1, 16, Codes.BRANCH, 1, 0, 0);
            x.run(1, 17);
            x.settle(1);
        }
        return x;
    }

    /** Leaves a word in storage, one in memory alone, and a lazy flush, a store and ORDER pending. */
    private static void fillMemoryAndBuffer(StoreBufferCores x, int core) {
        Codes.load(x, core,
            Codes.SET, 0, 0, 8 * core, Codes.SET, 1, 0, 50 + core,
            Codes.STORE, 1, 0, 0, Codes.FLUSH, 0, 0, 0, Codes.STORE, 1, 0, 31,
            Codes.LAZY, 0, 0, 4, Codes.STORE, 1, 0, 5, Codes.ORDER, 0, 0, 0);
        x.run(core, 5);
        x.settle(core);
        x.run(core, PENDING);
    }

    /** Every number of these instructions shows in the registers or the buffer when they run. */
    private static void putProgram(StoreBufferCores x, int core) {
        for (int i = 0; i < 24; i++) {
            int k = i % 4;
            if (i / 4 % 2 == 0) {
                x.put(core, i, Codes.SET, k, 0, 1000 * core + 10 * i + 1);
            } else if (k < 3) {
                x.put(core, i, Codes.ADD, k, k + 1, 0);
            } else {
                x.put(core, i, Codes.STORE, 3, 2, i);
            }
        }
    }
}
