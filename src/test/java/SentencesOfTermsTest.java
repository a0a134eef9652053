import java.io.IOException;
import java.util.function.Supplier;

/**
 * 'Terms', sentence by sentence from the first to the last: what each changes in an object in the
 * midst of its life, and that it changes nothing else.
 */
final class SentencesOfTermsTest {
    private static final Check check = new Check();
    private static final int DONE = StoreBufferCores.DONE;
    private static final int WAITS = StoreBufferCores.WAITS;
    private static final int HALTED = StoreBufferCores.HALTED;
    private static final int MAX = Integer.MAX_VALUE;
    private static final int MIN = Integer.MIN_VALUE;

    private static Sentences terms;

    public static void main(String[] args) throws IOException {
        terms = new Sentences(check, "## Terms", "## Promise 1");
        wordsAreInts();
        memoryAndStorage();
        cores();
        partsOfACore();
        instruction();
        codesThatChangeRegisters();
        codesThatTouchMemory();
        codesThatPutEntries();
        branch();
        stepping();
        waits();
        halted();
        draining();
        passing();
        writingBack();
        dirty();
        constants();
        terms.end();
        check.end();
    }

    // Of LivedIn.with(2), core 0 has PC 8, R1 = 50 and zeros else, and pending a lazy flush of line
    // 1, a store of 50 to word 5 and ORDER, with room for one more. Memory has 50 at words 0 and 31,
    // 51 at 7 and 8; storage has it at 0 and 8; lines 1 and 7 are dirty.

    private static StoreBufferCores at(int code, int x, int y, int n) {
        StoreBufferCores it = LivedIn.with(2);
        it.put(0, 8, code, x, y, n);
        return it;
    }

    private static StoreBufferCores emptyAt(int code, int x, int y, int n) {
        StoreBufferCores it = at(code, x, y, n);
        it.settle(0);
        return it;
    }

    private static StoreBufferCores fullAt(int code, int x, int y, int n) {
        StoreBufferCores it = at(Codes.ORDER, 0, 0, 0);
        it.step(0);
        it.put(0, 9, code, x, y, n);
        return it;
    }

    private static void step(String of, Supplier<StoreBufferCores> making, int due,
            String... changes) {
        Twins.changed(check, "step(0) of " + of, making, x -> x.step(0), due, changes);
    }

    private static void drain(String of, Supplier<StoreBufferCores> making, int k,
            String... changes) {
        Twins.changed(check, "drain(0, " + k + ") of " + of, making, x -> x.drain(0, k), true, changes);
    }

    private static void wordsAreInts() {
        terms.says("WORDS are ints.");
        for (int value : new int[] {MAX, MIN, -1, 1 << 16}) {
            StoreBufferCores x = Codes.with(2, 4,
                Codes.SET, 1, 0, value, Codes.STORE, 1, 0, 20, Codes.LOAD, 2, 0, 20);
            x.run(0, 3);
            check.due("register(0, 2)", x.register(0, 2), value);
            check.due("sees(0, 20)", x.sees(0, 20), value);
            x.settle(0);
            x.evict(5);
            x.crash();
            check.due("memory(20)", x.memory(20), value);
            check.due("storage(20)", x.storage(20), value);
        }
    }

    private static void memoryAndStorage() {
        terms.says("MEMORY and STORAGE have 32 words each, in 8 LINES of four: "
            + "word a is in line a / 4.");
        for (int a = 0; a < 32; a++) {
            StoreBufferCores x = Codes.with(2, 4, Codes.SET, 1, 0, 9, Codes.STORE, 1, 0, a);
            x.run(0, 2);
            x.settle(0);
            for (int line = 0; line < 8; line++) {
                check.due("dirty(" + line + ") by word " + a, x.dirty(line), line == a / 4);
            }
            check.due("memory(" + a + ")", x.memory(a), 9);
            x.evict(a / 4);
            check.due("storage(" + a + ")", x.storage(a), 9);
        }
        check.due("evict(8)", LivedIn.with(2).evict(8), false);
    }

    private static void cores() {
        terms.says("There are CORES 0, 1, .. .");
        for (int cores = 2; cores <= 4; cores++) {
            StoreBufferCores x = new StoreBufferCores(cores, 4);
            for (int core = 0; core <= cores; core++) {
                int due = core < cores ? HALTED : StoreBufferCores.NONE;
                check.due("step(" + core + ") of " + cores, x.step(core), due);
            }
        }
    }

    private static void partsOfACore() {
        terms.says("Each has registers R0 .. R3, a PROGRAM of 24 instructions, a place PC in it, "
            + "a RECOVERY ENTRY 0 .. 23, and a BUFFER of ENTRIES, the oldest being number 0, "
            + "with so much ROOM.");
        for (int core = 0; core < 4; core++) {
            StoreBufferCores x = eighteenSetsAndSixLazyFlushes(core);
            x.recovery(core, 18);
            check.due("run(" + core + ", 20)", x.run(core, 20), 20);
            check.due("run(" + core + ", 20) again", x.run(core, 20), 4);
            for (int other = 0; other < 4; other++) {
                check.due("place(" + other + ")", x.place(other), other == core ? 24 : 0);
                check.due("pending(" + other + ")", x.pending(other), other == core ? 6 : 0);
                check.due("register(" + other + ", 3)", x.register(other, 3), other == core ? 480 : 0);
            }
            for (int k = 0; k < 6; k++) {
                check.due("entry(" + core + ", " + k + ", 1)", x.entry(core, k, 1), k);
            }
            x.crash();
            for (int other = 0; other < 4; other++) {
                check.due("place(" + other + ")", x.place(other), other == core ? 18 : 0);
            }
        }
    }

    private static StoreBufferCores eighteenSetsAndSixLazyFlushes(int core) {
        StoreBufferCores x = new StoreBufferCores(4, 6);
        for (int i = 0; i < 18; i++) {
            x.put(core, i, Codes.SET, i % 4, 0, 32 * i);
        }
        for (int line = 0; line < 6; line++) {
            x.put(core, 18 + line, Codes.LAZY, 0, 0, 4 * line);
        }
        return x;
    }

    private static void instruction() {
        terms.says("An INSTRUCTION has a code, two register numbers x and y (0 .. 3) and a number n.");
        for (int x = 0; x < 4; x++) {
            for (int y = 0; y < 4; y++) {
                StoreBufferCores it = Codes.with(2, 4, Codes.SET, 0, 0, 10, Codes.SET, 1, 0, 11,
                    Codes.SET, 2, 0, 12, Codes.SET, 3, 0, 13, Codes.STORE, x, y, 6);
                it.run(0, 5);
                check.due("entry(0, 0, 1) of y " + y, it.entry(0, 0, 1), 16 + y);
                check.due("entry(0, 0, 2) of x " + x, it.entry(0, 0, 2), 10 + x);
            }
        }
        terms.says("ADDRESS is the word (Ry + n) & 31.");
        addressIs(0, 0, 0);
        addressIs(20, 11, 31);
        addressIs(20, 12, 0);
        addressIs(-1, 0, 31);
        addressIs(3, -4, 31);
        addressIs(MAX, 1, 0);
        addressIs(MAX, MAX, 30);
        addressIs(MIN, -1, 31);
    }

    private static void addressIs(int register, int n, int due) {
        StoreBufferCores x = Codes.with(2, 4, Codes.SET, 2, 0, register, Codes.STORE, 0, 2, n);
        x.run(0, 2);
        check.due("entry(0, 0, 1) of " + register + " + " + n, x.entry(0, 0, 1), due);
    }

    private static void codesThatChangeRegisters() {
        terms.says("The codes:");
        terms.says("0 HALT");
        step("HALT", () -> at(0, 1, 1, 3), HALTED);
        terms.says("1 SET: Rx becomes n");
        step("SET", () -> at(1, 2, 1, -9), DONE, "place(0) = 9", "register(0, 2) = -9");
        step("SET", () -> at(1, 1, 1, MIN), DONE, "place(0) = 9", "register(0, 1) = " + MIN);
        terms.says("2 LOAD: Rx becomes what the core SEES at ADDRESS: "
            + "the value of the newest store to this word in its own buffer,");
        step("LOAD of its own store", () -> at(2, 3, 2, 5), DONE,
            "place(0) = 9", "register(0, 3) = 50");
        step("LOAD of the newer of two", SentencesOfTermsTest::atLoadOfTheNewer, DONE,
            "place(0) = 12", "register(0, 2) = 81");
        terms.says("the word of memory if there is none");
        step("LOAD of memory", () -> at(2, 3, 2, 7), DONE, "place(0) = 9", "register(0, 3) = 51");
        step("LOAD of a word that core 1 has in its buffer", () -> at(2, 1, 2, 13), DONE,
            "place(0) = 9", "register(0, 1) = 0");
        step("LOAD of word 7 behind a flush of line 7", SentencesOfTermsTest::behindFlush, DONE,
            "place(0) = 10", "register(0, 3) = 51");
    }

    private static StoreBufferCores behindFlush() {
        StoreBufferCores x = at(Codes.FLUSH, 1, 2, 30);
        x.put(0, 9, Codes.LOAD, 3, 2, 7);
        x.step(0);
        return x;
    }

    /** In its buffer core 0 has a store of 50 to word 5, and a newer one of 81. */
    private static StoreBufferCores atLoadOfTheNewer() {
        StoreBufferCores x = LivedIn.with(2);
        x.put(0, 9, Codes.STORE, 0, 2, 5);
        x.put(0, 10, Codes.SET, 1, 0, 4);
        x.put(0, 11, Codes.LOAD, 2, 1, 1);
        x.run(0, 3);
        return x;
    }

    private static void codesThatTouchMemory() {
        terms.says("3 STORE: an entry with ADDRESS and Rx");
        step("STORE", () -> at(3, 1, 1, -1), DONE, "place(0) = 9", "pending(0) = 4",
            "entry(0, 3, 0) = 0", "entry(0, 3, 1) = 17", "entry(0, 3, 2) = 50");
        terms.says("4 ADD: Rx becomes Rx + Ry, wrapping");
        step("ADD", () -> at(4, 2, 1, 7), DONE, "place(0) = 9", "register(0, 2) = 50");
        step("ADD to itself", () -> at(4, 1, 1, 7), DONE, "place(0) = 9", "register(0, 1) = 100");
        StoreBufferCores x = Codes.with(2, 4,
            Codes.SET, 1, 0, MAX, Codes.SET, 2, 0, 2, Codes.ADD, 1, 2, 0);
        x.run(0, 3);
        check.due("register(0, 1)", x.register(0, 1), MIN + 1);
        terms.says("5 SWAP: when the word of memory at ADDRESS is equal to R0, it becomes Rx;");
        step("SWAP that finds R0", () -> emptyAt(5, 1, 2, 20), DONE,
            "place(0) = 9", "memory(20) = 50", "dirty(5) = 1");
        step("SWAP by R1", () -> emptyAt(5, 1, 1, 2), DONE,
            "place(0) = 9", "memory(20) = 50", "dirty(5) = 1");
        terms.says("otherwise R0 becomes that word");
        step("SWAP that does not", () -> emptyAt(5, 1, 2, 31), DONE,
            "place(0) = 9", "register(0, 0) = 50");
        terms.says("6 FENCE");
        step("FENCE", () -> emptyAt(6, 1, 1, 3), DONE, "place(0) = 9");
    }

    private static void codesThatPutEntries() {
        terms.says("7 ORDER: an entry");
        step("ORDER", () -> at(7, 1, 1, -1), DONE, "place(0) = 9", "pending(0) = 4",
            "entry(0, 3, 0) = 3", "entry(0, 3, 1) = 0", "entry(0, 3, 2) = 0");
        terms.says("8 FLUSH and 9 FLUSH LAZILY: an entry with the line of ADDRESS");
        step("FLUSH", () -> at(8, 1, 1, -1), DONE, "place(0) = 9", "pending(0) = 4",
            "entry(0, 3, 0) = 1", "entry(0, 3, 1) = 4", "entry(0, 3, 2) = 0");
        step("FLUSH LAZILY", () -> at(9, 1, 1, -1), DONE, "place(0) = 9", "pending(0) = 4",
            "entry(0, 3, 0) = 2", "entry(0, 3, 1) = 4", "entry(0, 3, 2) = 0");
    }

    private static void branch() {
        terms.says("10 BRANCH: PC becomes n if Rx is not 0 (for this code n is 0 .. 23)");
        for (int n : new int[] {0, 3, 9, 23}) {
            step("BRANCH by R1", () -> at(10, 1, 0, n), DONE, "place(0) = " + n);
            step("BRANCH by R0", () -> at(10, 0, 1, n), DONE, "place(0) = 9");
        }
        for (int value : new int[] {0, 1, -1, MAX, MIN, 256, 65536}) {
            StoreBufferCores x = Codes.with(2, 4, Codes.SET, 3, 0, value, Codes.BRANCH, 3, 0, 9);
            x.run(0, 2);
            check.due("place(0) by " + value, x.place(0), value == 0 ? 2 : 9);
        }
        // Back to itself, where nothing at all is other than before.
        step("BRANCH to its own place", () -> at(10, 1, 0, 8), DONE);
    }

    private static void stepping() {
        terms.says("STEPPING a core does its instruction at PC, after which PC is one more "
            + "(unless BRANCH set it):");
        StoreBufferCores x = new StoreBufferCores(2, 4);
        for (int i = 0; i < 24; i++) {
            x.put(1, i, Codes.SET, 1, 0, 100 + i);
        }
        for (int i = 0; i < 24; i++) {
            check.due("place(1)", x.place(1), i);
            check.due("step(1) at " + i, x.step(1), DONE);
            check.due("register(1, 1)", x.register(1, 1), 100 + i);
        }
        check.due("place(1)", x.place(1), 24);
        terms.says("a STORE, ORDER, FLUSH or FLUSH LAZILY puts its entry at the end of the buffer.");
        for (int code : new int[] {Codes.STORE, Codes.ORDER, Codes.FLUSH, Codes.LAZY}) {
            StoreBufferCores it = at(code, 1, 1, -1);
            it.drain(0, 1);
            check.due("step(0) of " + code, it.step(0), DONE);
            int[] kinds = {0, 0, 0, 0, 0, 0, 0, 3, 1, 2};
            check.due("entry(0, 0, 0)", it.entry(0, 0, 0), StoreBufferCores.LAZY);
            check.due("entry(0, 1, 0)", it.entry(0, 1, 0), StoreBufferCores.ORDER);
            check.due("entry(0, 2, 0)", it.entry(0, 2, 0), kinds[code]);
            check.due("pending(0)", it.pending(0), 3);
            isPutTwice(code);
        }
    }

    private static void isPutTwice(int code) {
        StoreBufferCores x = Codes.with(2, 4, code, 0, 0, 8, code, 0, 0, 8, code, 0, 0, 8);
        check.due("run(0, 3) of " + code, x.run(0, 3), 3);
        check.due("pending(0) of the same thrice", x.pending(0), 3);
        for (int what = 0; what < 3; what++) {
            check.due("entry(0, 2, " + what + ")", x.entry(0, 2, what), x.entry(0, 0, what));
        }
    }

    private static void waits() {
        terms.says("But the core WAITS, and nothing changes, when one of these finds the buffer full,");
        for (int code : new int[] {Codes.STORE, Codes.ORDER, Codes.FLUSH, Codes.LAZY}) {
            step("code " + code + ", full", () -> fullAt(code, 1, 1, -1), WAITS);
        }
        terms.says("and when SWAP or FENCE find it not empty.");
        for (int code : new int[] {Codes.SWAP, Codes.FENCE}) {
            step("code " + code + ", not empty", () -> at(code, 1, 2, 20), WAITS);
            step("code " + code + ", full", () -> fullAt(code, 1, 2, 20), WAITS);
            step("code " + code + ", with one entry", () -> behindOrder(code), WAITS);
        }
    }

    private static StoreBufferCores behindOrder(int code) {
        StoreBufferCores x = beforeLast();
        x.put(0, 8, code, 1, 2, 20);
        return x;
    }

    private static void halted() {
        terms.says("At HALT, and when PC is 24, nothing changes and the core is HALTED.");
        step("HALT", () -> at(Codes.HALT, 3, 3, 20), HALTED);
        step("HALT, full", () -> fullAt(Codes.HALT, 3, 3, 20), HALTED);
        step("place 24", SentencesOfTermsTest::atTheEnd, HALTED);
    }

    private static StoreBufferCores atTheEnd() {
        StoreBufferCores x = at(Codes.BRANCH, 1, 0, 23);
        x.run(0, 2);
        return x;
    }

    private static void draining() {
        terms.says("DRAINING entry k of a buffer takes it out (later ones move up):");
        drain("ORDER", SentencesOfTermsTest::beforeOrder, 0, "pending(0) = 2",
            "entry(0, 0, 0) = 0", "entry(0, 0, 1) = 17", "entry(0, 0, 2) = 50",
            "entry(0, 1, 0) = 1", "entry(0, 1, 1) = 7", "entry(0, 1, 2) = 0",
            "entry(0, 2, 0) = -1", "entry(0, 2, 1) = -1", "entry(0, 2, 2) = -1");
        terms.says("a store puts its value into its word of memory;");
        drain("a store", () -> LivedIn.with(2), 1, "memory(5) = 50", "pending(0) = 2",
            "entry(0, 1, 0) = 3", "entry(0, 1, 1) = 0", "entry(0, 1, 2) = 0",
            "entry(0, 2, 0) = -1", "entry(0, 2, 1) = -1", "entry(0, 2, 2) = -1");
        terms.says("the two flushes write their line back;");
        for (int code : new int[] {Codes.FLUSH, Codes.LAZY}) {
            drain("code " + code, () -> beforeFlush(code), 0, "storage(31) = 50", "dirty(7) = 0",
                "pending(0) = 0", "entry(0, 0, 0) = -1", "entry(0, 0, 1) = -1",
                "entry(0, 0, 2) = -1");
            for (int line = 0; line < 8; line++) {
                isWrittenBackAlone(code, line);
            }
        }
        terms.says("ORDER does nothing more.");
        drain("ORDER", () -> beforeLast(), 0, "pending(0) = 0",
            "entry(0, 0, 0) = -1", "entry(0, 0, 1) = -1", "entry(0, 0, 2) = -1");
        drain("ORDER where all is dirty", () -> allDirtyBefore(Codes.ORDER, 0), 0, "pending(0) = 0",
            "entry(0, 0, 0) = -1", "entry(0, 0, 1) = -1", "entry(0, 0, 2) = -1");
    }

    private static StoreBufferCores allDirtyBefore(int code, int word) {
        StoreBufferCores x = LivedIn.allDirty(2);
        x.put(0, 0, code, 0, 0, word);
        x.step(0);
        return x;
    }

    private static void isWrittenBackAlone(int code, int line) {
        StoreBufferCores x = allDirtyBefore(code, 4 * line + 1);
        check.due("drain(0, 0) of " + code, x.drain(0, 0), true);
        for (int a = 0; a < 32; a++) {
            check.due("storage(" + a + ")", x.storage(a), a / 4 == line ? 100 + a : 0);
            check.due("memory(" + a + ")", x.memory(a), 100 + a);
            check.due("dirty(" + a / 4 + ")", x.dirty(a / 4), a / 4 != line);
        }
    }

    /** Core 0 has ORDER, a store of 50 to word 17 and a flush of line 7 in its buffer. */
    private static StoreBufferCores beforeOrder() {
        StoreBufferCores x = beforeLast();
        x.put(0, 8, Codes.STORE, 1, 1, -1);
        x.put(0, 9, Codes.FLUSH, 0, 0, 31);
        x.run(0, 2);
        return x;
    }

    /** Core 0 has a flush of line 7 of either kind in its buffer, and that alone. */
    private static StoreBufferCores beforeFlush(int code) {
        StoreBufferCores x = emptyAt(code, 1, 2, 29);
        x.step(0);
        return x;
    }

    /** Core 0 has ORDER in its buffer, and that alone. */
    private static StoreBufferCores beforeLast() {
        StoreBufferCores x = LivedIn.with(2);
        x.drain(0, 0);
        x.drain(0, 0);
        return x;
    }

    private static void passing() {
        terms.says("It may be done if each older entry LETS IT PASS,");
        StoreBufferCores x = Codes.with(2, 8, Codes.LAZY, 0, 0, 0, Codes.FLUSH, 0, 0, 4,
            Codes.LAZY, 0, 0, 8, Codes.LAZY, 0, 0, 4, Codes.STORE, 0, 0, 0);
        x.run(0, 5);
        check.due("drain(0, 4), not by the flush", x.drain(0, 4), false);
        check.due("drain(0, 3), not by the flush of its line", x.drain(0, 3), false);
        check.due("drain(0, 2), by both", x.drain(0, 2), true);
        check.due("drain(0, 1), by the lazy flush", x.drain(0, 1), true);
        check.due("drain(0, 2), by all that is left", x.drain(0, 2), true);
        ofItsOwnBuffer();
        terms.says("which one entry does to a later one only in these cases:");
        for (int word : new int[] {4, 6, 7, 3, 8}) {
            for (int code : new int[] {Codes.STORE, Codes.FLUSH, Codes.LAZY, Codes.ORDER}) {
                isHeldBack(Codes.ORDER, code, word);
                isHeldBack(code, Codes.ORDER, word);
            }
            isHeldBack(Codes.STORE, Codes.STORE, word);
            isHeldBack(Codes.STORE, Codes.FLUSH, word);
            isHeldBack(Codes.FLUSH, Codes.STORE, word);
            isHeldBack(Codes.FLUSH, Codes.FLUSH, word);
        }
        terms.says("it is a lazy flush and the later one is a store or a lazy flush;");
        for (int word : new int[] {4, 6, 7, 3, 8}) {
            passes(Codes.LAZY, Codes.STORE, word);
            passes(Codes.LAZY, Codes.LAZY, word);
        }
        terms.says("one of the two is a lazy flush, the other a store or a flush of either kind, "
            + "and they are of different lines (a store being of its word's line).");
        for (int word : new int[] {3, 8}) {
            passes(Codes.LAZY, Codes.FLUSH, word);
            passes(Codes.STORE, Codes.LAZY, word);
            passes(Codes.FLUSH, Codes.LAZY, word);
        }
        for (int word : new int[] {4, 6, 7}) {
            isHeldBack(Codes.LAZY, Codes.FLUSH, word);
            isHeldBack(Codes.STORE, Codes.LAZY, word);
            isHeldBack(Codes.FLUSH, Codes.LAZY, word);
        }
    }

    private static void ofItsOwnBuffer() {
        StoreBufferCores x = Codes.with(2, 4, Codes.LAZY, 0, 0, 0, Codes.STORE, 0, 0, 8);
        Codes.load(x, 1, Codes.ORDER, 0, 0, 0, Codes.STORE, 0, 0, 8);
        x.run(0, 2);
        x.run(1, 2);
        check.due("drain(1, 1) behind ORDER", x.drain(1, 1), false);
        check.due("drain(0, 1) behind a lazy flush", x.drain(0, 1), true);
    }

    /** The older entry is of word 6, so that its line has the words 4 to 7. */
    private static StoreBufferCores twoEntries(int older, int later, int word) {
        StoreBufferCores x = Codes.with(2, 2,
            Codes.SET, 1, 0, 9, older, 1, 0, 6, later, 1, 0, word);
        x.run(0, 3);
        return x;
    }

    private static void isHeldBack(int older, int later, int word) {
        Twins.unchanged(check, "drain(0, 1) of " + later + " at " + word + " behind " + older,
            () -> twoEntries(older, later, word), x -> x.drain(0, 1), false);
    }

    private static void passes(int older, int later, int word) {
        StoreBufferCores x = twoEntries(older, later, word);
        check.due("drain(0, 1) of " + later + " at " + word + " behind " + older,
            x.drain(0, 1), true);
        check.due("pending(0)", x.pending(0), 1);
        check.due("drain(0, 0) after it", x.drain(0, 0), true);
    }

    private static void writingBack() {
        terms.says("WRITING BACK a line makes its four words of storage what they are in memory.");
        for (int line = 0; line < 8; line++) {
            StoreBufferCores x = LivedIn.allDirty(2);
            x.evict(line);
            for (int a = 0; a < 32; a++) {
                check.due("storage(" + a + ") by line " + line,
                    x.storage(a), a / 4 == line ? 100 + a : 0);
                check.due("memory(" + a + ")", x.memory(a), 100 + a);
            }
        }
    }

    private static void dirty() {
        terms.says("A line is DIRTY when a word of it was put into memory (by draining a store,");
        StoreBufferCores x = Codes.with(2, 4, Codes.SET, 1, 0, 6, Codes.STORE, 1, 2, 21,
            Codes.SWAP, 0, 2, 21, Codes.SWAP, 1, 2, 21, Codes.SWAP, 0, 2, 21);
        x.run(0, 2);
        check.due("dirty(5) while the store is pending", x.dirty(5), false);
        x.drain(0, 0);
        check.due("dirty(5) once it is drained", x.dirty(5), true);
        terms.says("or by a SWAP that found R0 there),");
        x.evict(5);
        x.step(0);
        check.due("dirty(5) by a SWAP that did not find R0", x.dirty(5), false);
        x.step(0);
        check.due("dirty(5) by a SWAP that did, with the same value", x.dirty(5), true);
        terms.says("were it with the same value,");
        check.due("memory(21)", x.memory(21), 6);
        x.evict(5);
        check.due("step(0)", x.step(0), DONE);
        check.due("dirty(5) by R0 for R0", x.dirty(5), true);
        sameValueStored();
        terms.says("since the line was last written back");
        x.evict(5);
        check.due("dirty(5) once written back", x.dirty(5), false);
        flushedIsClean();
        terms.says("(or since the latest crash,");
        StoreBufferCores lived = LivedIn.with(2);
        check.due("dirty(7)", lived.dirty(7), true);
        lived.crash();
        check.due("dirty(7) after a crash", lived.dirty(7), false);
        terms.says("or the beginning).");
        for (int line = 0; line < 8; line++) {
            check.due("dirty(" + line + ") at first", new StoreBufferCores(3, 4).dirty(line), false);
        }
    }

    private static void sameValueStored() {
        StoreBufferCores x = Codes.with(2, 4, Codes.STORE, 0, 0, 2);
        x.step(0);
        x.settle(0);
        check.due("memory(2)", x.memory(2), 0);
        check.due("dirty(0) by a store of 0", x.dirty(0), true);
    }

    private static void flushedIsClean() {
        for (int code : new int[] {Codes.FLUSH, Codes.LAZY}) {
            StoreBufferCores x = Codes.with(2, 4, Codes.STORE, 0, 0, 2, code, 0, 0, 1);
            x.run(0, 2);
            x.drain(0, 0);
            check.due("dirty(0) before a flush", x.dirty(0), true);
            x.drain(0, 0);
            check.due("dirty(0) after a flush", x.dirty(0), false);
        }
    }

    private static void constants() {
        terms.says("The constants: `DONE = 0, WAITS = 1, HALTED = 2`: Answers of step.");
        check.due("DONE", at(Codes.SET, 0, 0, 0).step(0), 0);
        check.due("WAITS", at(Codes.FENCE, 0, 0, 0).step(0), 1);
        check.due("HALTED", at(Codes.HALT, 0, 0, 0).step(0), 2);
        terms.says("`STORE = 0, FLUSH = 1, LAZY = 2, ORDER = 3`: Kinds of entries.");
        int[] codes = {Codes.STORE, Codes.FLUSH, Codes.LAZY, Codes.ORDER};
        for (int kind = 0; kind < 4; kind++) {
            StoreBufferCores x = Codes.with(2, 4, codes[kind], 0, 0, 0);
            x.step(0);
            check.due("entry(0, 0, 0) of " + codes[kind], x.entry(0, 0, 0), kind);
        }
    }
}
