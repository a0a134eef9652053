/** Promises 10 to 16: register, place, pending, entry, sees, memory and storage. */
final class LookTest {
    private static final Check check = new Check();
    private static final int NONE = StoreBufferCores.NONE;

    public static void main(String[] args) {
        registers();
        placesAndPending();
        entries();
        seesNewestOwnStore();
        wordsOfMemoryAndStorage();
        check.end();
    }

    private static void registers() {
        StoreBufferCores x = new StoreBufferCores(3, 4);
        for (int core = 0; core < 3; core++) {
            for (int k = 0; k < 4; k++) {
                x.put(core, k, Codes.SET, k, 0, 10 * core + k + 1);
            }
            x.run(core, 20);
        }
        for (int core = 0; core < 3; core++) {
            for (int k = 0; k < 4; k++) {
                check.due("register(" + core + ", " + k + ")", x.register(core, k), 10 * core + k + 1);
            }
            for (int k : Codes.outside(4)) {
                check.due("register(" + core + ", " + k + ")", x.register(core, k), 0);
            }
        }
        for (int core : Codes.outside(3)) {
            check.due("register(" + core + ", 0)", x.register(core, 0), 0);
        }
    }

    private static void placesAndPending() {
        StoreBufferCores x = new StoreBufferCores(2, 8);
        for (int i = 0; i < 24; i++) {
            x.put(1, i, Codes.LAZY, 0, 0, 0);
        }
        for (int i = 0; i < 24; i++) {
            check.due("place(1)", x.place(1), i);
            check.due("pending(1)", x.pending(1), i % 8);
            x.step(1);
            if (i % 8 == 7) {
                check.due("pending(1)", x.pending(1), 8);
                x.settle(1);
            }
        }
        check.due("place(1)", x.place(1), 24);
        check.due("place(0)", x.place(0), 0);
        check.due("pending(0)", x.pending(0), 0);
        for (int core : Codes.outside(2)) {
            check.due("place(" + core + ")", x.place(core), NONE);
            check.due("pending(" + core + ")", x.pending(core), NONE);
        }
    }

    private static void entries() {
        StoreBufferCores x = Codes.with(2, 8,
            Codes.SET, 1, 0, -1, Codes.STORE, 1, 0, 31, Codes.FLUSH, 1, 0, 30, Codes.LAZY, 1, 0, 21,
            Codes.ORDER, 1, 1, 9, Codes.STORE, 0, 0, 0);
        x.run(0, 6);
        int[][] due = {
            {StoreBufferCores.STORE, 31, -1}, {StoreBufferCores.FLUSH, 7, 0},
            {StoreBufferCores.LAZY, 5, 0}, {StoreBufferCores.ORDER, 0, 0},
            {StoreBufferCores.STORE, 0, 0}};
        for (int k = 0; k < due.length; k++) {
            for (int what = 0; what < 3; what++) {
                check.due("entry(0, " + k + ", " + what + ")", x.entry(0, k, what), due[k][what]);
            }
            for (int what : Codes.outside(3)) {
                check.due("entry(0, " + k + ", " + what + ")", x.entry(0, k, what), NONE);
            }
        }
        for (int k : Codes.outside(5)) {
            check.due("entry(0, " + k + ", 1)", x.entry(0, k, 1), NONE);
        }
        for (int core : Codes.outside(2)) {
            check.due("entry(" + core + ", 0, 1)", x.entry(core, 0, 1), NONE);
        }
        check.due("entry(1, 0, 1)", x.entry(1, 0, 1), NONE);
        x.crash();
        check.due("entry(0, 0, 1) after a crash", x.entry(0, 0, 1), NONE);
    }

    private static void seesNewestOwnStore() {
        StoreBufferCores x = Codes.with(2, 8,
            Codes.SET, 1, 0, 5, Codes.STORE, 1, 0, 7, Codes.SET, 1, 0, 6, Codes.STORE, 1, 0, 7,
            Codes.STORE, 1, 0, 6, Codes.FLUSH, 0, 0, 31, Codes.ORDER, 0, 0, 0);
        x.run(0, 7);
        check.due("sees(0, 7)", x.sees(0, 7), 6);
        check.due("sees(0, 6)", x.sees(0, 6), 6);
        check.due("sees(0, 0)", x.sees(0, 0), 0);
        check.due("sees(1, 7)", x.sees(1, 7), 0);
        x.drain(0, 0);
        check.due("sees(0, 7)", x.sees(0, 7), 6);
        check.due("sees(1, 7)", x.sees(1, 7), 5);
        check.due("memory(7)", x.memory(7), 5);
        x.settle(0);
        check.due("sees(1, 7)", x.sees(1, 7), 6);
        for (int a : Codes.outside(32)) {
            check.due("sees(0, " + a + ")", x.sees(0, a), 0);
        }
        for (int core : Codes.outside(2)) {
            check.due("sees(" + core + ", 7)", x.sees(core, 7), 0);
        }
    }

    private static void wordsOfMemoryAndStorage() {
        StoreBufferCores x = new StoreBufferCores(2, 4);
        for (int a = 0; a < 32; a++) {
            x.put(1, 0, Codes.SET, 3, 0, 100 + a);
            x.put(1, 1, Codes.STORE, 3, 0, a);
            x.crash();
            x.run(1, 2);
            x.settle(1);
            check.due("memory(" + a + ")", x.memory(a), 100 + a);
            check.due("storage(" + a + ")", x.storage(a), 0);
            x.evict(a / 4);
        }
        for (int a = 0; a < 32; a++) {
            check.due("memory(" + a + ")", x.memory(a), 100 + a);
            check.due("storage(" + a + ")", x.storage(a), 100 + a);
        }
        for (int a : Codes.outside(32)) {
            check.due("memory(" + a + ")", x.memory(a), 0);
            check.due("storage(" + a + ")", x.storage(a), 0);
        }
    }
}
