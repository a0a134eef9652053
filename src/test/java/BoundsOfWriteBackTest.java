/** The boundary cases of promises 8, 9 and 17, and of WRITING BACK and DIRTY. */
final class BoundsOfWriteBackTest {
    private static final Check check = new Check();
    private static final int EVICT = -1;
    private static final int[] WAYS = {EVICT, Codes.FLUSH, Codes.LAZY};

    public static void main(String[] args) {
        evictOfNoLine();
        dirtyOfNoLine();
        writingBackIsOfItsFourWords();
        writingBackACleanLine();
        eachWordDirtiesItsLine();
        sameValueDirties();
        swapThatDoesNotFindR0DoesNotDirty();
        storeThatIsPendingDoesNotDirty();
        dirtyAgainAfterWritingBack();
        crashEmptiesAndClears();
        crashTakesEveryWordBack();
        crashKeepsWhatStays();
        crashOfANewObject();
        crashTwice();
        check.end();
    }

    private static void evictOfNoLine() {
        check.about("Promise 8, false when there is no such line");
        for (int line : Codes.outside(8)) {
            Twins.unchanged(check, "evict(" + line + ")", () -> LivedIn.with(2),
                x -> x.evict(line), false);
            Twins.unchanged(check, "evict(" + line + ")", () -> LivedIn.allDirty(2),
                x -> x.evict(line), false);
        }
    }

    private static void dirtyOfNoLine() {
        check.about("Promise 17, false when there is none");
        for (int line : Codes.outside(8)) {
            Twins.unchanged(check, "dirty(" + line + ")", () -> LivedIn.allDirty(2),
                x -> x.dirty(line), false);
        }
    }

    /** Core 0 comes back to its place 0 each time, as core 1 does in LivedIn.allDirty. */
    private static void writeBack(StoreBufferCores x, int way, int line) {
        if (way == EVICT) {
            check.due("evict(" + line + ")", x.evict(line), true);
            return;
        }
        x.put(0, 0, way, 0, 3, 4 * line + line % 4);
        x.put(0, 1, Codes.SET, 0, 0, 1);
        x.put(0, 2, Codes.BRANCH, 0, 0, 0);
        check.due("run(0, 3)", x.run(0, 3), 3);
        check.due("drain(0, 0)", x.drain(0, 0), true);
    }

    private static void writingBackIsOfItsFourWords() {
        check.about("WRITING BACK a line makes its four words of storage what they are in memory");
        for (int way : WAYS) {
            for (int line = 0; line < 8; line++) {
                StoreBufferCores x = LivedIn.allDirty(2);
                writeBack(x, way, line);
                for (int a = 0; a < 32; a++) {
                    check.due("memory(" + a + ")", x.memory(a), 100 + a);
                    check.due("storage(" + a + ")", x.storage(a), a / 4 == line ? 100 + a : 0);
                    check.due("dirty(" + a / 4 + ")", x.dirty(a / 4), a / 4 != line);
                }
            }
        }
    }

    private static void writingBackACleanLine() {
        check.about("Promise 8, true for a line that is not dirty, of a new object too");
        for (int line = 0; line < 8; line++) {
            int same = line;
            Twins.unchanged(check, "evict(" + line + ")", () -> writtenBack(same),
                x -> x.evict(same), true);
            check.due("evict of a new object", new StoreBufferCores(2, 4).evict(line), true);
        }
    }

    private static StoreBufferCores writtenBack(int line) {
        StoreBufferCores x = LivedIn.allDirty(2);
        x.evict(line);
        return x;
    }

    private static void eachWordDirtiesItsLine() {
        check.about("A line is DIRTY when a word of it was put into memory");
        for (int code : new int[] {Codes.STORE, Codes.SWAP}) {
            for (int a = 0; a < 32; a++) {
                StoreBufferCores x = Codes.with(2, 4, Codes.SET, 1, 0, 3, code, 1, 0, a);
                x.run(0, 2);
                x.settle(0);
                for (int line = 0; line < 8; line++) {
                    check.due("dirty(" + line + ") by word " + a, x.dirty(line), line == a / 4);
                }
            }
        }
    }

    private static void sameValueDirties() {
        check.about("A line is DIRTY when a word was put, were it with the same value");
        for (int code : new int[] {Codes.STORE, Codes.SWAP}) {
            for (int value : new int[] {0, 1, -1, Integer.MIN_VALUE}) {
                StoreBufferCores x = Codes.with(2, 4,
                    Codes.SET, 0, 0, value, Codes.STORE, 0, 3, 20, code, 0, 3, 20);
                x.run(0, 2);
                x.settle(0);
                x.evict(5);
                check.due("dirty(5) before", x.dirty(5), false);
                check.due("step(0) of " + code, x.step(0), StoreBufferCores.DONE);
                x.settle(0);
                check.due("dirty(5) by " + code + " of " + value, x.dirty(5), true);
                check.due("memory(20)", x.memory(20), value);
                check.due("storage(20)", x.storage(20), value);
            }
        }
    }

    private static void swapThatDoesNotFindR0DoesNotDirty() {
        check.about("A line is DIRTY by a SWAP that found R0 there, and by no other");
        StoreBufferCores x = Codes.with(2, 4, Codes.SET, 0, 0, 1, Codes.SET, 1, 0, 2,
            Codes.SWAP, 1, 3, 9, Codes.SWAP, 1, 3, 9);
        x.run(0, 3);
        check.due("dirty(2)", x.dirty(2), false);
        check.due("register(0, 0)", x.register(0, 0), 0);
        check.due("memory(9)", x.memory(9), 0);
        x.step(0);
        check.due("dirty(2)", x.dirty(2), true);
        check.due("register(0, 0)", x.register(0, 0), 0);
        check.due("memory(9)", x.memory(9), 2);
    }

    private static void storeThatIsPendingDoesNotDirty() {
        check.about("A line is DIRTY by draining a store, not by the STORE itself");
        StoreBufferCores x = Codes.with(2, 4, Codes.SET, 1, 0, 3, Codes.STORE, 1, 0, 12);
        x.run(0, 2);
        check.due("dirty(3)", x.dirty(3), false);
        check.due("evict(3)", x.evict(3), true);
        check.due("storage(12)", x.storage(12), 0);
        x.drain(0, 0);
        check.due("dirty(3)", x.dirty(3), true);
    }

    private static void dirtyAgainAfterWritingBack() {
        check.about("DIRTY since the line was last written back");
        for (int way : WAYS) {
            StoreBufferCores x = LivedIn.allDirty(2);
            for (int time = 0; time < 3; time++) {
                writeBack(x, way, 7);
                check.due("dirty(7) once written back", x.dirty(7), false);
                x.run(1, 17);
                x.settle(1);
                check.due("dirty(7) once stored again", x.dirty(7), true);
            }
        }
    }

    private static void crashEmptiesAndClears() {
        check.about("Promise 9, what becomes empty or 0");
        for (int cores = 2; cores <= 4; cores++) {
            StoreBufferCores x = LivedIn.with(cores);
            x.crash();
            for (int core = 0; core < cores; core++) {
                check.due("pending(" + core + ")", x.pending(core), 0);
                check.due("entry(" + core + ", 0, 0)", x.entry(core, 0, 0), StoreBufferCores.NONE);
                check.due("place(" + core + ")", x.place(core), 5 + core);
                for (int k = 0; k < 4; k++) {
                    check.due("register(" + core + ", " + k + ")", x.register(core, k), 0);
                }
                check.due("sees(" + core + ", 5)", x.sees(core, 8 * core + 5), 0);
            }
            for (int a = 0; a < 32; a++) {
                int due = a % 8 == 0 && a / 8 < cores ? 50 + a / 8 : 0;
                check.due("memory(" + a + ")", x.memory(a), due);
                check.due("storage(" + a + ")", x.storage(a), due);
                check.due("dirty(" + a / 4 + ")", x.dirty(a / 4), false);
            }
        }
    }

    private static void crashTakesEveryWordBack() {
        check.about("Promise 9, memory becomes what storage is; no line is dirty");
        for (int odd = 0; odd < 2; odd++) {
            StoreBufferCores x = LivedIn.allDirty(2);
            for (int line = odd; line < 8; line += 2) {
                x.evict(line);
            }
            x.crash();
            for (int a = 0; a < 32; a++) {
                int due = a / 4 % 2 == odd ? 100 + a : 0;
                check.due("memory(" + a + ")", x.memory(a), due);
                check.due("storage(" + a + ")", x.storage(a), due);
                check.due("dirty(" + a / 4 + ")", x.dirty(a / 4), false);
            }
        }
    }

    private static void crashKeepsWhatStays() {
        check.about("Promise 9, programs, recovery entries and storage stay");
        StoreBufferCores x = LivedIn.with(3);
        x.crash();
        for (int core = 0; core < 3; core++) {
            x.run(core, 20);
        }
        x.crash();
        for (int core = 0; core < 3; core++) {
            check.due("place(" + core + ")", x.place(core), 5 + core);
            check.due("storage(" + 8 * core + ")", x.storage(8 * core), 50 + core);
            check.due("run(" + core + ", 20)", x.run(core, 20), 19 - core);
            check.due("register(" + core + ", 3)", x.register(core, 3), 1000 * core + 191);
            check.due("entry(" + core + ", 2, 2)", x.entry(core, 2, 2), 1000 * core + 191);
        }
    }

    private static void crashOfANewObject() {
        check.about("Promise 9, when nothing has happened yet");
        Twins.unchanged(check, "crash()", () -> new StoreBufferCores(4, 8), x -> {
            x.crash();
            return 0;
        }, 0);
    }

    private static void crashTwice() {
        check.about("Promise 9, a crash right after a crash");
        Twins.unchanged(check, "crash()", BoundsOfWriteBackTest::crashed, x -> {
            x.crash();
            return 0;
        }, 0);
    }

    private static StoreBufferCores crashed() {
        StoreBufferCores x = LivedIn.with(3);
        x.crash();
        return x;
    }
}
