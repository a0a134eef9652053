/** The boundary cases of promises 1 and 18, one test for each sentence. */
final class BoundsOfNewObjectTest {
    private static final Check check = new Check();
    private static final int NONE = StoreBufferCores.NONE;
    private static final int[] WRONG_CORES = {1, 0, -1, -2, -4, 5, 6, 8, 258, Integer.MAX_VALUE,
        Integer.MIN_VALUE};
    private static final int[] WRONG_ROOM = {0, -1, -8, 9, 10, 16, 264, Integer.MAX_VALUE,
        Integer.MIN_VALUE};

    public static void main(String[] args) {
        coresWithinTheirBounds();
        coresOutsideTheirBounds();
        roomWithinItsBounds();
        roomOutsideItsBounds();
        oneWrongNumberLeavesTheOtherAlone();
        everyPlaceHaltsInEveryCore();
        everyWordRegisterAndBufferIsEmpty();
        everyRecoveryEntryIsZero();
        coresAnswersTheSameEver();
        check.end();
    }

    private static void coresWithinTheirBounds() {
        check.about("Promise 1, cores when that is 2 .. 4");
        for (int cores = 2; cores <= 4; cores++) {
            hasCores(new StoreBufferCores(cores, 4), "of " + cores, cores);
        }
    }

    private static void coresOutsideTheirBounds() {
        check.about("Promise 1, else 2 cores, and promise 18 after it");
        for (int cores : WRONG_CORES) {
            hasCores(new StoreBufferCores(cores, 4), "of " + cores, 2);
        }
    }

    private static void hasCores(StoreBufferCores x, String of, int due) {
        check.due("cores() " + of, x.cores(), due);
        check.due("place(" + (due - 1) + ") " + of, x.place(due - 1), 0);
        check.due("place(" + due + ") " + of, x.place(due), NONE);
        check.due("put(" + (due - 1) + ", ..) " + of, x.put(due - 1, 0, 0, 0, 0, 0), true);
        check.due("put(" + due + ", ..) " + of, x.put(due, 0, 0, 0, 0, 0), false);
    }

    private static void roomWithinItsBounds() {
        check.about("Promise 1, room when that is 1 .. 8");
        for (int room = 1; room <= 8; room++) {
            hasRoom(2, room, room);
        }
    }

    private static void roomOutsideItsBounds() {
        check.about("Promise 1, else room for 4");
        for (int room : WRONG_ROOM) {
            hasRoom(2, room, 4);
        }
    }

    private static void oneWrongNumberLeavesTheOtherAlone() {
        check.about("Promise 1, one wrong number and one right, or two wrong");
        hasCores(new StoreBufferCores(4, 0), "with room 0", 4);
        hasCores(new StoreBufferCores(3, 9), "with room 9", 3);
        hasCores(new StoreBufferCores(1, 9), "with room 9", 2);
        hasRoom(1, 8, 8);
        hasRoom(5, 1, 1);
        hasRoom(5, 0, 4);
    }

    private static void hasRoom(int cores, int room, int due) {
        StoreBufferCores x = new StoreBufferCores(cores, room);
        String of = "of room " + room;
        for (int core = 0; core < x.cores(); core++) {
            for (int i = 0; i < 12; i++) {
                x.put(core, i, Codes.ORDER, 0, 0, 0);
            }
            check.due("run(" + core + ", 20) " + of, x.run(core, 20), due);
            check.due("pending(" + core + ") " + of, x.pending(core), due);
            check.due("step(" + core + ") " + of, x.step(core), StoreBufferCores.WAITS);
        }
    }

    private static void everyPlaceHaltsInEveryCore() {
        check.about("Promise 1, all instructions are HALT");
        for (int cores = 2; cores <= 4; cores++) {
            StoreBufferCores x = new StoreBufferCores(cores, 4);
            for (int i = 0; i < 24; i++) {
                haltsEverywhere(x, i);
            }
        }
    }

    private static void haltsEverywhere(StoreBufferCores x, int i) {
        for (int core = 0; core < x.cores(); core++) {
            x.recovery(core, i);
        }
        x.crash();
        for (int core = 0; core < x.cores(); core++) {
            check.due("step(" + core + ") at " + i, x.step(core), StoreBufferCores.HALTED);
        }
    }

    private static void everyWordRegisterAndBufferIsEmpty() {
        check.about("Promise 1, all words and registers are 0, buffers empty, no line dirty");
        for (int cores : new int[] {2, 3, 4, 1, 5}) {
            StoreBufferCores x = new StoreBufferCores(cores, 8);
            for (int a = 0; a < 32; a++) {
                check.due("memory(" + a + ")", x.memory(a), 0);
                check.due("storage(" + a + ")", x.storage(a), 0);
                check.due("dirty(" + a / 4 + ")", x.dirty(a / 4), false);
            }
            for (int core = 0; core < x.cores(); core++) {
                coreIsEmpty(x, core);
            }
        }
    }

    private static void coreIsEmpty(StoreBufferCores x, int core) {
        check.due("place(" + core + ")", x.place(core), 0);
        check.due("pending(" + core + ")", x.pending(core), 0);
        check.due("entry(" + core + ", 0, 0)", x.entry(core, 0, 0), NONE);
        for (int k = 0; k < 4; k++) {
            check.due("register(" + core + ", " + k + ")", x.register(core, k), 0);
        }
        for (int a = 0; a < 32; a++) {
            check.due("sees(" + core + ", " + a + ")", x.sees(core, a), 0);
        }
    }

    private static void everyRecoveryEntryIsZero() {
        check.about("Promise 1, all recovery entries are 0");
        StoreBufferCores x = new StoreBufferCores(4, 4);
        for (int core = 0; core < 4; core++) {
            x.put(core, 0, Codes.SET, 0, 0, 1);
            x.step(core);
            check.due("place(" + core + ")", x.place(core), 1);
        }
        x.crash();
        for (int core = 0; core < 4; core++) {
            check.due("place(" + core + ") after a crash", x.place(core), 0);
        }
    }

    private static void coresAnswersTheSameEver() {
        check.about("Promise 18");
        for (int cores = 2; cores <= 4; cores++) {
            StoreBufferCores x = LivedIn.with(cores);
            check.due("cores()", x.cores(), cores);
            x.crash();
            check.due("cores() after a crash", x.cores(), cores);
        }
    }
}
