import java.util.function.Function;

/** The boundary cases of promises 10 to 18: nothing there, and that to look changes nothing. */
final class BoundsOfLookTest {
    private static final Check check = new Check();
    private static final int NONE = StoreBufferCores.NONE;

    public static void main(String[] args) {
        registerOfNoCore();
        registerOfNoNumber();
        registerFirstAndLast();
        placeOfNoCore();
        placeFromFirstToLast();
        pendingOfNoCore();
        pendingFromNoneToAll();
        entryOfNoCore();
        entryOfNoNumber();
        entryOfNoWhat();
        entryFirstAndLast();
        entryOfAnEmptyBuffer();
        seesOfNoCore();
        seesOfNoWord();
        seesFirstAndLast();
        memoryOfNoWord();
        storageOfNoWord();
        memoryAndStorageFirstAndLast();
        lookingChangesNothing();
        check.end();
    }

    private static void look(int cores, String call, Function<StoreBufferCores, Object> looking,
            Object due) {
        Twins.unchanged(check, call, () -> LivedIn.with(cores), looking, due);
    }

    private static void registerOfNoCore() {
        check.about("Promise 10, 0 when there is no such core");
        for (int cores = 2; cores <= 4; cores++) {
            for (int core : Codes.outside(cores)) {
                look(cores, "register(" + core + ", 1)", x -> x.register(core, 1), 0);
            }
        }
    }

    private static void registerOfNoNumber() {
        check.about("Promise 10, 0 when there is no such register");
        for (int k : Codes.outside(4)) {
            look(2, "register(1, " + k + ")", x -> x.register(1, k), 0);
        }
    }

    private static void registerFirstAndLast() {
        check.about("Promise 10, each register of each core");
        StoreBufferCores x = new StoreBufferCores(4, 4);
        for (int core = 0; core < 4; core++) {
            for (int k = 0; k < 4; k++) {
                x.put(core, k, Codes.SET, k, 0, core == k ? Integer.MIN_VALUE : 10 * core + k + 1);
            }
            x.run(core, 4);
        }
        for (int core = 0; core < 4; core++) {
            for (int k = 0; k < 4; k++) {
                int due = core == k ? Integer.MIN_VALUE : 10 * core + k + 1;
                check.due("register(" + core + ", " + k + ")", x.register(core, k), due);
            }
        }
    }

    private static void placeOfNoCore() {
        check.about("Promise 11, NONE when there is no such core");
        for (int cores = 2; cores <= 4; cores++) {
            for (int core : Codes.outside(cores)) {
                look(cores, "place(" + core + ")", x -> x.place(core), NONE);
            }
        }
    }

    private static void placeFromFirstToLast() {
        check.about("Promise 11, the PC of a core, 0 .. 24");
        StoreBufferCores x = new StoreBufferCores(4, 4);
        for (int i = 0; i < 24; i++) {
            x.put(3, i, Codes.SET, 0, 0, i);
        }
        for (int i = 0; i <= 24; i++) {
            check.due("place(3)", x.place(3), i);
            x.step(3);
        }
        check.due("place(3)", x.place(3), 24);
        check.due("place(0)", x.place(0), 0);
    }

    private static void pendingOfNoCore() {
        check.about("Promise 12, NONE when there is no such core");
        for (int cores = 2; cores <= 4; cores++) {
            for (int core : Codes.outside(cores)) {
                look(cores, "pending(" + core + ")", x -> x.pending(core), NONE);
            }
        }
    }

    private static void pendingFromNoneToAll() {
        check.about("Promise 12, from an empty buffer to a full one and back");
        for (int code : new int[] {Codes.STORE, Codes.ORDER, Codes.FLUSH, Codes.LAZY}) {
            StoreBufferCores x = new StoreBufferCores(3, 8);
            for (int i = 0; i < 9; i++) {
                x.put(2, i, code, 0, 0, i);
            }
            for (int count = 0; count <= 8; count++) {
                check.due("pending(2)", x.pending(2), count);
                x.step(2);
            }
            for (int count = 8; count >= 0; count--) {
                check.due("pending(2)", x.pending(2), count);
                x.drain(2, 0);
            }
            check.due("pending(0)", x.pending(0), 0);
        }
    }

    private static void entryOfNoCore() {
        check.about("Promise 13, NONE when there is no such core");
        for (int cores = 2; cores <= 4; cores++) {
            for (int core : Codes.outside(cores)) {
                for (int what = 0; what < 3; what++) {
                    int asked = what;
                    look(cores, "entry(" + core + ", 0, " + what + ")",
                        x -> x.entry(core, 0, asked), NONE);
                }
            }
        }
    }

    private static void entryOfNoNumber() {
        check.about("Promise 13, NONE when there is no such entry");
        for (int k : Codes.outside(LivedIn.PENDING)) {
            for (int what = 0; what < 3; what++) {
                int asked = what;
                look(2, "entry(1, " + k + ", " + what + ")", x -> x.entry(1, k, asked), NONE);
            }
        }
    }

    private static void entryOfNoWhat() {
        check.about("Promise 13, NONE when there is no such what");
        for (int what : Codes.outside(3)) {
            for (int k = 0; k < LivedIn.PENDING; k++) {
                int asked = k;
                look(2, "entry(1, " + k + ", " + what + ")", x -> x.entry(1, asked, what), NONE);
            }
        }
    }

    private static void entryFirstAndLast() {
        check.about("Promise 13, the first and the last entry of each kind");
        int[] codes = {Codes.STORE, Codes.FLUSH, Codes.LAZY, Codes.ORDER};
        for (int kind = 0; kind < 4; kind++) {
            StoreBufferCores x = new StoreBufferCores(2, 8);
            x.put(1, 0, Codes.SET, 2, 0, Integer.MIN_VALUE);
            for (int i = 0; i < 8; i++) {
                x.put(1, 1 + i, codes[kind], 2, 0, 31 - 4 * i);
            }
            check.due("run(1, 9)", x.run(1, 9), 9);
            for (int k : new int[] {0, 7}) {
                int value = kind == StoreBufferCores.STORE ? Integer.MIN_VALUE : 0;
                int[] targets = {31 - 4 * k, 7 - k, 7 - k, 0};
                check.due("entry(1, " + k + ", 0)", x.entry(1, k, 0), kind);
                check.due("entry(1, " + k + ", 1)", x.entry(1, k, 1), targets[kind]);
                check.due("entry(1, " + k + ", 2)", x.entry(1, k, 2), value);
            }
            check.due("entry(1, 8, 0)", x.entry(1, 8, 0), NONE);
        }
    }

    private static void entryOfAnEmptyBuffer() {
        check.about("Promise 13, NONE when there is no entry at all, or none any more");
        StoreBufferCores x = LivedIn.with(2);
        for (int left = LivedIn.PENDING - 1; left >= 0; left--) {
            x.drain(0, 0);
            for (int what = 0; what < 3; what++) {
                check.due("entry(0, " + left + ", " + what + ")", x.entry(0, left, what), NONE);
            }
        }
        x.crash();
        for (int what = 0; what < 3; what++) {
            check.due("entry(1, 0, " + what + ")", x.entry(1, 0, what), NONE);
            check.due("entry(0, 0, " + what + ") of a new object",
                new StoreBufferCores(2, 1).entry(0, 0, what), NONE);
        }
    }

    private static void seesOfNoCore() {
        check.about("Promise 14, 0 when there is no such core");
        for (int cores = 2; cores <= 4; cores++) {
            for (int core : Codes.outside(cores)) {
                look(cores, "sees(" + core + ", 0)", x -> x.sees(core, 0), 0);
                look(cores, "sees(" + core + ", 5)", x -> x.sees(core, 5), 0);
            }
        }
    }

    private static void seesOfNoWord() {
        check.about("Promise 14, 0 when there is no such word");
        for (int a : Codes.outside(32)) {
            look(2, "sees(0, " + a + ")", x -> x.sees(0, a), 0);
            check.due("sees(1, " + a + ")", filledAtTheEnds().sees(1, a), 0);
        }
    }

    /** Words 0 and 31 are put into memory by core 0, and stored again by core 1. */
    private static StoreBufferCores filledAtTheEnds() {
        StoreBufferCores x = Codes.with(2, 4, Codes.SET, 1, 0, 40, Codes.SET, 2, 0, 41,
            Codes.STORE, 1, 0, 0, Codes.STORE, 2, 0, 31);
        Codes.load(x, 1, Codes.SET, 1, 0, 50, Codes.SET, 2, 0, 51,
            Codes.STORE, 1, 0, 0, Codes.STORE, 2, 0, 31);
        x.run(0, 4);
        x.settle(0);
        x.run(1, 4);
        return x;
    }

    private static void seesFirstAndLast() {
        check.about("Promise 14, the first and the last word");
        StoreBufferCores x = filledAtTheEnds();
        check.due("sees(0, 0)", x.sees(0, 0), 40);
        check.due("sees(0, 31)", x.sees(0, 31), 41);
        check.due("sees(1, 0)", x.sees(1, 0), 50);
        check.due("sees(1, 31)", x.sees(1, 31), 51);
        check.due("sees(1, 1)", x.sees(1, 1), 0);
        check.due("sees(1, 30)", x.sees(1, 30), 0);
    }

    private static void memoryOfNoWord() {
        check.about("Promise 15, 0 when there is none");
        for (int a : Codes.outside(32)) {
            look(2, "memory(" + a + ")", x -> x.memory(a), 0);
            check.due("memory(" + a + ")", filledAtTheEnds().memory(a), 0);
        }
    }

    private static void storageOfNoWord() {
        check.about("Promise 16, 0 when there is none");
        for (int a : Codes.outside(32)) {
            look(2, "storage(" + a + ")", x -> x.storage(a), 0);
            StoreBufferCores ends = filledAtTheEnds();
            ends.evict(0);
            ends.evict(7);
            check.due("storage(" + a + ")", ends.storage(a), 0);
        }
    }

    private static void memoryAndStorageFirstAndLast() {
        check.about("Promises 15 and 16, the first and the last word");
        StoreBufferCores x = filledAtTheEnds();
        check.due("memory(0)", x.memory(0), 40);
        check.due("memory(31)", x.memory(31), 41);
        check.due("storage(0)", x.storage(0), 0);
        check.due("storage(31)", x.storage(31), 0);
        x.evict(0);
        x.evict(7);
        check.due("storage(0)", x.storage(0), 40);
        check.due("storage(31)", x.storage(31), 41);
        check.due("memory(1)", x.memory(1), 0);
        check.due("storage(30)", x.storage(30), 0);
    }

    private static void lookingChangesNothing() {
        check.about("Promises 10 to 18, to look changes nothing");
        look(2, "register(0, 1)", x -> x.register(0, 1), 50);
        look(2, "place(1)", x -> x.place(1), 9);
        look(2, "pending(1)", x -> x.pending(1), LivedIn.PENDING);
        look(2, "entry(0, 1, 2)", x -> x.entry(0, 1, 2), 50);
        look(2, "sees(0, 5)", x -> x.sees(0, 5), 50);
        look(2, "memory(31)", x -> x.memory(31), 50);
        look(2, "storage(8)", x -> x.storage(8), 51);
        look(2, "dirty(7)", x -> x.dirty(7), true);
        look(2, "cores()", StoreBufferCores::cores, 2);
    }
}
