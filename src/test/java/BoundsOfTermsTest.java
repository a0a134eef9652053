/** The boundary cases of 'Terms': ADDRESS, ADD, WAITS, HALTED, BRANCH and what a core SEES. */
final class BoundsOfTermsTest {
    private static final Check check = new Check();
    private static final int DONE = StoreBufferCores.DONE;
    private static final int WAITS = StoreBufferCores.WAITS;
    private static final int HALTED = StoreBufferCores.HALTED;
    private static final int MAX = Integer.MAX_VALUE;
    private static final int MIN = Integer.MIN_VALUE;
    private static final int[] ENTRY_CODES = {Codes.STORE, Codes.ORDER, Codes.FLUSH, Codes.LAZY};

    // A number in Ry, a number n, and the word that they name.
    private static final int[][] ADDRESSES = {
        {0, 0, 0}, {0, 31, 31}, {0, 32, 0}, {0, 33, 1}, {0, -1, 31}, {0, -32, 0}, {0, -33, 31},
        {31, 0, 31}, {31, 1, 0}, {32, -1, 31}, {-1, 0, 31}, {-1, 1, 0}, {5, 31, 4}, {3, 1, 4},
        {MAX, 0, 31}, {MAX, 1, 0}, {MAX, MAX, 30}, {MIN, 0, 0}, {MIN, -1, 31}, {MIN, MIN, 0},
        {MIN, MAX, 31}};

    public static void main(String[] args) {
        addressOfStore();
        addressOfLoad();
        addressOfSwap();
        addressOfFlushes();
        addWraps();
        fullBufferWaits();
        fullBufferWaitsForAnyKind();
        otherCodesDoNotMindAFullBuffer();
        swapAndFenceWaitForAnEmptyBuffer();
        swapAndFenceMindTheirOwnBufferAlone();
        haltedAtHalt();
        haltedBehindTheLastPlace();
        lastPlaceIsDone();
        branchOnZeroAndOnOthers();
        seesNoEntryButAStoreToThisWord();
        seesTheNewestOfAFullBuffer();
        check.end();
    }

    private static void addressOfStore() {
        check.about("ADDRESS is the word (Ry + n) & 31, of STORE");
        for (int[] row : ADDRESSES) {
            StoreBufferCores x = Codes.with(2, 4,
                Codes.SET, 2, 0, row[0], Codes.SET, 1, 0, 7, Codes.STORE, 1, 2, row[1]);
            x.run(0, 3);
            String of = " of " + row[0] + " + " + row[1];
            check.due("entry(0, 0, 1)" + of, x.entry(0, 0, 1), row[2]);
            x.settle(0);
            check.due("memory(" + row[2] + ")" + of, x.memory(row[2]), 7);
        }
    }

    private static void addressOfLoad() {
        check.about("ADDRESS is the word (Ry + n) & 31, of LOAD");
        for (int[] row : ADDRESSES) {
            StoreBufferCores x = Codes.with(2, 4,
                Codes.SET, 2, 0, row[0], Codes.LOAD, 1, 2, row[1]);
            Codes.load(x, 1, Codes.SET, 1, 0, 7, Codes.STORE, 1, 0, row[2]);
            x.run(1, 2);
            x.settle(1);
            x.run(0, 2);
            check.due("register(0, 1) of " + row[0] + " + " + row[1], x.register(0, 1), 7);
            check.due("pending(0)", x.pending(0), 0);
        }
    }

    private static void addressOfSwap() {
        check.about("ADDRESS is the word (Ry + n) & 31, of SWAP");
        for (int[] row : ADDRESSES) {
            StoreBufferCores x = Codes.with(2, 4,
                Codes.SET, 2, 0, row[0], Codes.SET, 1, 0, 7, Codes.SWAP, 1, 2, row[1]);
            x.run(0, 3);
            String of = " of " + row[0] + " + " + row[1];
            check.due("memory(" + row[2] + ")" + of, x.memory(row[2]), 7);
            check.due("dirty(" + row[2] / 4 + ")" + of, x.dirty(row[2] / 4), true);
        }
    }

    private static void addressOfFlushes() {
        check.about("FLUSH and FLUSH LAZILY: an entry with the line of ADDRESS");
        for (int[] row : ADDRESSES) {
            StoreBufferCores x = Codes.with(2, 4, Codes.SET, 2, 0, row[0],
                Codes.FLUSH, 1, 2, row[1], Codes.LAZY, 1, 2, row[1], Codes.ORDER, 1, 2, row[1]);
            x.run(0, 4);
            String of = " of " + row[0] + " + " + row[1];
            check.due("entry(0, 0, 1)" + of, x.entry(0, 0, 1), row[2] / 4);
            check.due("entry(0, 1, 1)" + of, x.entry(0, 1, 1), row[2] / 4);
            check.due("entry(0, 2, 1)" + of, x.entry(0, 2, 1), 0);
        }
    }

    private static void addWraps() {
        check.about("ADD: Rx becomes Rx + Ry, wrapping");
        sumIs(MAX - 1, 1, MAX);
        sumIs(MAX, 1, MIN);
        sumIs(MAX, MAX, -2);
        sumIs(MIN + 1, -1, MIN);
        sumIs(MIN, -1, MAX);
        sumIs(MIN, MIN, 0);
        sumIs(MIN, MAX, -1);
        sumIs(0, 0, 0);
        StoreBufferCores x = Codes.with(2, 4, Codes.SET, 3, 0, MAX, Codes.ADD, 3, 3, 5);
        x.run(0, 2);
        check.due("register(0, 3) added to itself", x.register(0, 3), -2);
    }

    private static void sumIs(int first, int second, int due) {
        StoreBufferCores x = Codes.with(2, 4,
            Codes.SET, 1, 0, first, Codes.SET, 2, 0, second, Codes.ADD, 1, 2, 5);
        check.due("run(0, 3)", x.run(0, 3), 3);
        check.due(first + " + " + second, x.register(0, 1), due);
        check.due("register(0, 2)", x.register(0, 2), second);
    }

    /** An object whose core 0 is at code, with so many entries from another code before it. */
    private static StoreBufferCores atCode(int room, int entries, int before, int code) {
        StoreBufferCores x = new StoreBufferCores(2, room);
        x.put(0, 0, Codes.SET, 1, 0, 6);
        for (int i = 0; i < entries; i++) {
            x.put(0, 1 + i, before, 1, 3, 4 * i);
        }
        x.put(0, 1 + entries, code, 1, 3, 30);
        x.run(0, 1 + entries);
        return x;
    }

    private static void fullBufferWaits() {
        check.about("The core WAITS, and nothing changes, when one of these finds the buffer full");
        for (int room = 1; room <= 8; room++) {
            for (int code : ENTRY_CODES) {
                waitsWhenFull(room, Codes.LAZY, code);
                lastOneIsTaken(room, code);
            }
        }
    }

    private static void fullBufferWaitsForAnyKind() {
        check.about("The core WAITS, whatever the entries of a full buffer are");
        for (int before : ENTRY_CODES) {
            for (int code : ENTRY_CODES) {
                waitsWhenFull(1, before, code);
                waitsWhenFull(8, before, code);
            }
        }
    }

    private static void waitsWhenFull(int room, int before, int code) {
        Twins.unchanged(check, "step(0) of " + code + " in full room " + room,
            () -> atCode(room, room, before, code), x -> x.step(0), WAITS);
        StoreBufferCores x = atCode(room, room, before, code);
        check.due("drain(0, 0)", x.drain(0, 0), true);
        check.due("step(0) of " + code + " after a drain", x.step(0), DONE);
        check.due("pending(0)", x.pending(0), room);
    }

    private static void lastOneIsTaken(int room, int code) {
        StoreBufferCores x = atCode(room, room - 1, Codes.LAZY, code);
        check.due("step(0) of " + code + " with one entry's room", x.step(0), DONE);
        check.due("pending(0)", x.pending(0), room);
        check.due("place(0)", x.place(0), room + 1);
    }

    private static void otherCodesDoNotMindAFullBuffer() {
        check.about("The core WAITS at no other code when the buffer is full");
        for (int code : new int[] {Codes.SET, Codes.LOAD, Codes.ADD}) {
            check.due("step(0) of " + code, atCode(3, 3, Codes.STORE, code).step(0), DONE);
        }
        StoreBufferCores x = atCode(3, 3, Codes.STORE, Codes.HALT);
        check.due("step(0) of HALT", x.step(0), HALTED);
        x.put(0, 4, Codes.BRANCH, 1, 0, 20);
        check.due("step(0) of BRANCH", x.step(0), DONE);
        check.due("place(0)", x.place(0), 20);
        check.due("pending(0)", x.pending(0), 3);
    }

    private static void swapAndFenceWaitForAnEmptyBuffer() {
        check.about("The core WAITS, and nothing changes, when SWAP or FENCE find it not empty");
        for (int code : new int[] {Codes.SWAP, Codes.FENCE}) {
            for (int before : ENTRY_CODES) {
                for (int entries : new int[] {1, 2, 8}) {
                    Twins.unchanged(check, "step(0) of " + code + " behind " + before,
                        () -> atCode(8, entries, before, code), x -> x.step(0), WAITS);
                    goesOnceEmpty(atCode(8, entries, before, code), entries);
                }
            }
        }
    }

    private static void goesOnceEmpty(StoreBufferCores x, int entries) {
        for (int left = entries; left > 0; left--) {
            check.due("step(0) with " + left + " entries", x.step(0), WAITS);
            x.drain(0, 0);
        }
        check.due("step(0) with no entries", x.step(0), DONE);
        check.due("place(0)", x.place(0), entries + 2);
    }

    private static void swapAndFenceMindTheirOwnBufferAlone() {
        check.about("SWAP and FENCE find another core's buffer not empty");
        for (int code : new int[] {Codes.SWAP, Codes.FENCE}) {
            StoreBufferCores x = Codes.with(2, 1, Codes.STORE, 0, 0, 30);
            Codes.load(x, 1, Codes.SET, 1, 0, 6, code, 1, 0, 30);
            x.step(0);
            check.due("run(1, 2) of " + code, x.run(1, 2), 2);
            check.due("memory(30)", x.memory(30), code == Codes.SWAP ? 6 : 0);
            check.due("pending(0)", x.pending(0), 1);
        }
    }

    private static void haltedAtHalt() {
        check.about("At HALT nothing changes and the core is HALTED");
        for (int entries : new int[] {0, 1, 4}) {
            Twins.unchanged(check, "step(0) of HALT with " + entries + " entries",
                () -> atCode(4, entries, Codes.STORE, Codes.HALT), x -> x.step(0), HALTED);
        }
        for (int i : new int[] {0, 1, 22, 23}) {
            Twins.unchanged(check, "step(0) of HALT at " + i, () -> halting(i), x -> x.step(0), HALTED);
        }
    }

    /** The object's core 0 is at a HALT with numbers, at any of its places. */
    private static StoreBufferCores halting(int i) {
        StoreBufferCores x = LivedIn.with(2);
        x.put(0, i, Codes.HALT, 3, 2, -7);
        x.recovery(0, i);
        x.crash();
        return x;
    }

    private static void haltedBehindTheLastPlace() {
        check.about("When PC is 24 nothing changes and the core is HALTED");
        for (int entries : new int[] {0, 1}) {
            Twins.unchanged(check, "step(0) at 24", () -> atEnd(entries), x -> x.step(0), HALTED);
        }
        StoreBufferCores x = atEnd(1);
        for (int time = 0; time < 3; time++) {
            check.due("step(0) at 24 again", x.step(0), HALTED);
            check.due("place(0)", x.place(0), 24);
        }
        x.put(0, 23, Codes.SET, 1, 0, 5);
        check.due("step(0) at 24 after a put", x.step(0), HALTED);
    }

    private static StoreBufferCores atEnd(int entries) {
        StoreBufferCores x = LivedIn.with(2);
        x.recovery(0, 23);
        x.put(0, 23, entries == 0 ? Codes.SET : Codes.STORE, 2, 1, 9);
        x.crash();
        x.step(0);
        return x;
    }

    private static void lastPlaceIsDone() {
        check.about("After an instruction PC is one more, from place 23 too");
        for (int code = 1; code <= 10; code++) {
            StoreBufferCores x = new StoreBufferCores(2, 4);
            x.put(1, 23, code, 1, 2, 3);
            x.recovery(1, 23);
            x.crash();
            check.due("step(1) of " + code, x.step(1), DONE);
            check.due("place(1)", x.place(1), 24);
            check.due("step(1) again", x.step(1), HALTED);
            check.due("place(0)", x.place(0), 0);
        }
    }

    private static void branchOnZeroAndOnOthers() {
        check.about("BRANCH: PC becomes n if Rx is not 0");
        for (int value : new int[] {0, 1, -1, 2, 256, 65536, MAX, MIN}) {
            for (int to : new int[] {0, 1, 2, 23}) {
                for (int k = 0; k < 4; k++) {
                    StoreBufferCores x = Codes.with(2, 4,
                        Codes.SET, k, 0, value, Codes.BRANCH, k, 3 - k, to);
                    check.due("run(0, 2)", x.run(0, 2), 2);
                    int due = value == 0 ? 2 : to;
                    check.due("place(0) by " + value + " to " + to, x.place(0), due);
                    check.due("register(0, " + k + ")", x.register(0, k), value);
                }
            }
        }
    }

    private static void seesNoEntryButAStoreToThisWord() {
        check.about("SEES: the word of memory if there is no store to this word in its buffer");
        // A FLUSH of line 5, a lazy one of line 6 and an ORDER are no stores to words 5, 6 and 0.
        StoreBufferCores x = Codes.with(2, 8, Codes.SET, 1, 0, 9,
            Codes.STORE, 1, 0, 5, Codes.STORE, 1, 0, 6, Codes.STORE, 1, 0, 0,
            Codes.FLUSH, 0, 0, 20, Codes.LAZY, 0, 0, 24, Codes.ORDER, 0, 0, 0,
            Codes.STORE, 0, 0, 4, Codes.STORE, 0, 0, 7, Codes.STORE, 0, 0, 1,
            Codes.LOAD, 2, 3, 5, Codes.LOAD, 3, 3, 6);
        x.run(0, 4);
        x.settle(0);
        check.due("run(0, 8)", x.run(0, 8), 8);
        check.due("sees(0, 5)", x.sees(0, 5), 9);
        check.due("sees(0, 6)", x.sees(0, 6), 9);
        check.due("sees(0, 0)", x.sees(0, 0), 9);
        check.due("register(0, 2)", x.register(0, 2), 9);
        check.due("register(0, 3)", x.register(0, 3), 9);
    }

    private static void seesTheNewestOfAFullBuffer() {
        check.about("SEES: the value of the newest store to this word in its own buffer");
        StoreBufferCores x = new StoreBufferCores(2, 8);
        for (int i = 0; i < 8; i++) {
            x.put(0, 2 * i, Codes.SET, 1, 0, 11 + i);
            x.put(0, 2 * i + 1, Codes.STORE, 1, 0, 31);
        }
        for (int i = 0; i < 8; i++) {
            check.due("run(0, 2)", x.run(0, 2), 2);
            check.due("sees(0, 31)", x.sees(0, 31), 11 + i);
            check.due("sees(1, 31)", x.sees(1, 31), 0);
        }
        for (int i = 0; i < 8; i++) {
            x.drain(0, 0);
            check.due("sees(0, 31) after a drain", x.sees(0, 31), 18);
            check.due("sees(1, 31) after a drain", x.sees(1, 31), 11 + i);
        }
    }
}
