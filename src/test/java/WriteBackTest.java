/** Promises 8, 9 and 17: evict, crash and dirty. */
final class WriteBackTest {
    private static final Check check = new Check();

    public static void main(String[] args) {
        everyLineIsEvicted();
        crashLosesWhatWasNotWrittenBack();
        crashTakesEveryLineBack();
        crashKeepsPrograms();
        check.end();
    }

    /** An object in which core 0 has put a + 1 into each word a of a line of memory. */
    private static StoreBufferCores storedLine(int line) {
        StoreBufferCores x = new StoreBufferCores(2, 4);
        for (int i = 0; i < 4; i++) {
            x.put(0, 2 * i, Codes.SET, 1, 0, 4 * line + i + 1);
            x.put(0, 2 * i + 1, Codes.STORE, 1, 0, 4 * line + i);
        }
        x.run(0, 20);
        x.settle(0);
        return x;
    }

    private static void everyLineIsEvicted() {
        for (int line = 0; line < 8; line++) {
            StoreBufferCores x = storedLine(line);
            for (int other = 0; other < 8; other++) {
                check.due("dirty(" + other + ")", x.dirty(other), other == line);
                if (other != line) {
                    check.due("evict(" + other + ")", x.evict(other), true);
                }
            }
            check.due("storage", x.storage(4 * line), 0);
            check.due("dirty(" + line + ")", x.dirty(line), true);
            check.due("evict(" + line + ")", x.evict(line), true);
            for (int a = 0; a < 32; a++) {
                check.due("storage(" + a + ")", x.storage(a), a / 4 == line ? a + 1 : 0);
                check.due("memory(" + a + ")", x.memory(a), a / 4 == line ? a + 1 : 0);
            }
            check.due("dirty(" + line + ")", x.dirty(line), false);
            check.due("evict(" + line + ") again", x.evict(line), true);
        }
    }

    private static void crashLosesWhatWasNotWrittenBack() {
        StoreBufferCores x = Codes.with(2, 4,
            Codes.SET, 3, 0, 6, Codes.STORE, 3, 0, 0, Codes.STORE, 3, 0, 31, Codes.STORE, 3, 0, 1);
        Codes.load(x, 1, Codes.SET, 0, 0, 2, Codes.ORDER, 0, 0, 0);
        x.recovery(1, 1);
        x.run(0, 4);
        x.run(1, 2);
        x.drain(0, 0);
        x.drain(0, 0);
        x.evict(0);
        x.crash();
        check.due("memory(0)", x.memory(0), 6);
        check.due("storage(0)", x.storage(0), 6);
        check.due("memory(1)", x.memory(1), 0);
        check.due("sees(0, 1)", x.sees(0, 1), 0);
        check.due("memory(31)", x.memory(31), 0);
        check.due("storage(31)", x.storage(31), 0);
        check.due("dirty(7)", x.dirty(7), false);
        check.due("pending(0)", x.pending(0), 0);
        check.due("pending(1)", x.pending(1), 0);
        check.due("register(0, 3)", x.register(0, 3), 0);
        check.due("register(1, 0)", x.register(1, 0), 0);
        check.due("place(0)", x.place(0), 0);
        check.due("place(1)", x.place(1), 1);
    }

    private static void crashTakesEveryLineBack() {
        for (int line = 0; line < 8; line++) {
            StoreBufferCores x = storedLine(line);
            x.crash();
            check.due("dirty(" + line + ") after a crash", x.dirty(line), false);
            for (int a = 0; a < 32; a++) {
                check.due("memory(" + a + ") after a crash", x.memory(a), 0);
            }
        }
    }

    private static void crashKeepsPrograms() {
        StoreBufferCores x = Codes.with(2, 4, Codes.SET, 1, 0, 4, Codes.STORE, 1, 1, 4);
        for (int time = 0; time < 3; time++) {
            check.due("run(0, 20)", x.run(0, 20), 2);
            check.due("entry(0, 0, 1)", x.entry(0, 0, 1), 8);
            check.due("entry(0, 0, 2)", x.entry(0, 0, 2), 4);
            x.recovery(0, 0);
            x.crash();
            x.crash();
        }
    }
}
