import java.io.IOException;
import java.util.function.Function;
import java.util.function.Supplier;

/**
 * Promises 1 to 18, sentence by sentence from the first to the last: what each call answers, what it
 * changes in an object in the midst of its life, and that it changes nothing else.
 */
final class SentencesOfPromisesTest {
    private static final Check check = new Check();
    private static final int NONE = StoreBufferCores.NONE;

    private static Sentences promises;

    public static void main(String[] args) throws IOException {
        promises = new Sentences(check, "## Promise 1:", "## Not promised");
        newObject();
        put();
        recovery();
        step();
        run();
        drain();
        settle();
        evict();
        crash();
        register();
        placeAndPending();
        entry();
        sees();
        words();
        dirtyAndCores();
        promises.end();
        check.end();
    }

    // Of LivedIn.with(2), core 0 has PC 8, R1 = 50 and zeros else, and pending a lazy flush of line
    // 1, a store of 50 to word 5 and ORDER; core 1 has PC 9, R0 = 1081, R1 = 51, and pending a lazy
    // flush of line 3, a store of 51 to word 13 and ORDER; both have room for one more. Memory has
    // 50 at words 0 and 31, 51 at 7 and 8; storage has it at 0 and 8; lines 1 and 7 are dirty. Core
    // 0 has recovery entry 5, core 1 has 6.

    private static StoreBufferCores livedIn() {
        return LivedIn.with(2);
    }

    private static void changes(String call, Function<StoreBufferCores, Object> calling, Object due,
            String... changes) {
        changes(call, SentencesOfPromisesTest::livedIn, calling, due, changes);
    }

    private static void changes(String call, Supplier<StoreBufferCores> making,
            Function<StoreBufferCores, Object> calling, Object due, String... changes) {
        Twins.changed(check, call, making, calling, due, changes);
    }

    private static void newObject() {
        promises.says("`StoreBufferCores(int cores, int room)`: "
            + "So many cores when that is 2 .. 4, else 2;");
        int[] cores = {2, 2, 2, 3, 4, 2, 2};
        for (int given = 0; given < cores.length; given++) {
            check.due("cores() of " + given, new StoreBufferCores(given, 8).cores(), cores[given]);
        }
        check.due("cores() of -3", new StoreBufferCores(-3, 8).cores(), 2);
        promises.says("room for so many entries when that is 1 .. 8, else 4.");
        int[] room = {4, 1, 2, 3, 4, 5, 6, 7, 8, 4, 4};
        for (int given = 0; given < room.length; given++) {
            roomIs(given, room[given]);
        }
        roomIs(-5, 4);
        promises.says("All words, registers, PCs and recovery entries are 0, "
            + "all instructions are HALT with numbers 0, buffers are empty, no line is dirty.");
        for (int count = 2; count <= 4; count++) {
            everythingIsNought(new StoreBufferCores(count, 8), count);
            everyPlaceIsHalt(new StoreBufferCores(count, 8), count);
        }
    }

    private static void roomIs(int given, int due) {
        StoreBufferCores x = new StoreBufferCores(3, given);
        for (int i = 0; i < 10; i++) {
            x.put(2, i, Codes.LAZY, 0, 0, 0);
        }
        check.due("run(2, 10) with room " + given, x.run(2, 10), due);
        check.due("pending(2) with room " + given, x.pending(2), due);
    }

    private static void everythingIsNought(StoreBufferCores x, int cores) {
        for (int a = 0; a < 32; a++) {
            check.due("memory(" + a + ")", x.memory(a), 0);
            check.due("storage(" + a + ")", x.storage(a), 0);
            check.due("dirty(" + a / 4 + ")", x.dirty(a / 4), false);
        }
        for (int core = 0; core < cores; core++) {
            check.due("place(" + core + ")", x.place(core), 0);
            check.due("pending(" + core + ")", x.pending(core), 0);
            for (int k = 0; k < 4; k++) {
                check.due("register(" + core + ", " + k + ")", x.register(core, k), 0);
            }
            x.put(core, 0, Codes.SET, 0, 0, 1);
            x.step(core);
        }
        x.crash();
        for (int core = 0; core < cores; core++) {
            check.due("place(" + core + ") after a crash", x.place(core), 0);
        }
    }

    private static void everyPlaceIsHalt(StoreBufferCores x, int cores) {
        for (int i = 0; i < 24; i++) {
            for (int core = 0; core < cores; core++) {
                x.recovery(core, i);
            }
            x.crash();
            for (int core = 0; core < cores; core++) {
                check.due("step(" + core + ") at " + i, x.step(core), StoreBufferCores.HALTED);
            }
        }
    }

    private static void put() {
        promises.says("`boolean put(int core, int i, int code, int x, int y, int n)`: "
            + "The instruction at place i of a core's program becomes the one with these numbers: "
            + "true;");
        changes("put(0, 8, 4, 2, 1, 7) and step(0)",
            x -> x.put(0, 8, 4, 2, 1, 7) ? x.step(0) : NONE, 0,
            "place(0) = 9", "register(0, 2) = 50",
            // The program no longer sets R0 at place 8, which shows until place 16 sets it again.
            "register(0, 0) with the run from 8 = 12", "register(0, 0) with the run from 12 = 103");
        changes("put(1, 5, 1, 3, 0, 7) and back", x -> x.put(1, 5, 1, 3, 0, 7)
            && x.put(1, 5, Codes.ADD, 1, 2, 0), true);
        promises.says("false, changing nothing, when there is no such core,");
        changes("put(2, 0, 1, 0, 0, 7)", x -> x.put(2, 0, 1, 0, 0, 7), false);
        changes("put(-1, 0, 1, 0, 0, 7)", x -> x.put(-1, 0, 1, 0, 0, 7), false);
        promises.says("i is not 0 .. 23,");
        changes("put(0, 24, 1, 0, 0, 7)", x -> x.put(0, 24, 1, 0, 0, 7), false);
        changes("put(0, -1, 1, 0, 0, 7)", x -> x.put(0, -1, 1, 0, 0, 7), false);
        promises.says("code not 0 .. 10,");
        changes("put(0, 0, 11, 0, 0, 7)", x -> x.put(0, 0, 11, 0, 0, 7), false);
        changes("put(0, 0, -1, 0, 0, 7)", x -> x.put(0, 0, -1, 0, 0, 7), false);
        promises.says("x or y not 0 .. 3,");
        changes("put(0, 0, 1, 4, 0, 7)", x -> x.put(0, 0, 1, 4, 0, 7), false);
        changes("put(0, 0, 1, -1, 0, 7)", x -> x.put(0, 0, 1, -1, 0, 7), false);
        changes("put(0, 0, 1, 0, 4, 7)", x -> x.put(0, 0, 1, 0, 4, 7), false);
        changes("put(0, 0, 1, 0, -1, 7)", x -> x.put(0, 0, 1, 0, -1, 7), false);
        promises.says("or code is 10 and n not 0 .. 23.");
        changes("put(0, 0, 10, 0, 0, 24)", x -> x.put(0, 0, 10, 0, 0, 24), false);
        changes("put(0, 0, 10, 0, 0, -1)", x -> x.put(0, 0, 10, 0, 0, -1), false);
    }

    private static void recovery() {
        promises.says("`boolean recovery(int core, int i)`: "
            + "The core's recovery entry becomes i: true;");
        changes("recovery(0, 17)", x -> x.recovery(0, 17), true, "place(0) with a crash = 17");
        changes("recovery(1, 0)", x -> x.recovery(1, 0), true, "place(1) with a crash = 0");
        changes("recovery(1, 23)", x -> x.recovery(1, 23), true, "place(1) with a crash = 23");
        promises.says("false, changing nothing, when there is no such core or i is not 0 .. 23.");
        changes("recovery(2, 17)", x -> x.recovery(2, 17), false);
        changes("recovery(-1, 17)", x -> x.recovery(-1, 17), false);
        changes("recovery(0, 24)", x -> x.recovery(0, 24), false);
        changes("recovery(0, -1)", x -> x.recovery(0, -1), false);
    }

    private static void step() {
        promises.says("`int step(int core)`: Steps a core: DONE, WAITS or HALTED;");
        changes("step(0)", x -> x.step(0), 0, "place(0) = 9", "register(0, 0) = 81");
        changes("step(1)", x -> x.step(1), 0, "place(1) = 10", "register(1, 1) = 1091");
        changes("step(1) of FENCE", () -> coreOneAt(Codes.FENCE), x -> x.step(1), 1);
        changes("step(1) of HALT", () -> coreOneAt(Codes.HALT), x -> x.step(1), 2);
        promises.says("NONE when there is no such core.");
        changes("step(2)", x -> x.step(2), NONE);
        changes("step(-1)", x -> x.step(-1), NONE);
    }

    private static StoreBufferCores coreOneAt(int code) {
        StoreBufferCores x = livedIn();
        x.put(1, 9, code, 0, 0, 0);
        return x;
    }

    private static void run() {
        promises.says("`int run(int core, int n)`: Steps a core again and again, n times at most, "
            + "until the answer is not DONE; answers how often it was DONE.");
        changes("run(0, 0)", x -> x.run(0, 0), 0);
        changes("run(0, 3)", x -> x.run(0, 3), 3, "place(0) = 11",
            "register(0, 0) = 81", "register(0, 1) = 91", "register(0, 2) = 101");
        // Places 8 to 11 set, 12 to 14 add, 15 stores, 16 to 22 do the same, and 23 finds no room.
        changes("run(0, 20)", x -> x.run(0, 20), 15, "place(0) = 23",
            "register(0, 0) = 332", "register(0, 1) = 352", "register(0, 2) = 372",
            "register(0, 3) = 191", "pending(0) = 4",
            "entry(0, 3, 0) = 0", "entry(0, 3, 1) = 3", "entry(0, 3, 2) = 111");
        changes("run(1, 20) of HALT", () -> coreOneAt(Codes.HALT), x -> x.run(1, 20), 0);
        promises.says("NONE, doing nothing, when there is no such core or n is not 0 .. 20.");
        changes("run(2, 3)", x -> x.run(2, 3), NONE);
        changes("run(-1, 3)", x -> x.run(-1, 3), NONE);
        changes("run(0, 21)", x -> x.run(0, 21), NONE);
        changes("run(0, -1)", x -> x.run(0, -1), NONE);
    }

    private static void drain() {
        promises.says("`boolean drain(int core, int k)`: Drains entry k of a core's buffer: true;");
        changes("drain(1, 1)", x -> x.drain(1, 1), true, "memory(13) = 51", "dirty(3) = 1",
            "pending(1) = 2", "entry(1, 1, 0) = 3", "entry(1, 1, 1) = 0", "entry(1, 1, 2) = 0",
            "entry(1, 2, 0) = -1", "entry(1, 2, 1) = -1", "entry(1, 2, 2) = -1");
        changes("drain(0, 0)", x -> x.drain(0, 0), true, "storage(7) = 51", "dirty(1) = 0",
            "pending(0) = 2", "entry(0, 0, 0) = 0", "entry(0, 0, 1) = 5", "entry(0, 0, 2) = 50",
            "entry(0, 1, 0) = 3", "entry(0, 1, 1) = 0", "entry(0, 1, 2) = 0",
            "entry(0, 2, 0) = -1", "entry(0, 2, 1) = -1", "entry(0, 2, 2) = -1");
        promises.says("false, changing nothing, when there is no such core or entry "
            + "or it may not be done.");
        changes("drain(2, 0)", x -> x.drain(2, 0), false);
        changes("drain(-1, 0)", x -> x.drain(-1, 0), false);
        changes("drain(0, 3)", x -> x.drain(0, 3), false);
        changes("drain(0, -1)", x -> x.drain(0, -1), false);
        changes("drain(0, 2), ORDER behind a store", x -> x.drain(0, 2), false);
    }

    private static void settle() {
        promises.says("`int settle(int core)`: Drains entry 0 of a core's buffer until it is empty; "
            + "answers how many entries there were.");
        changes("settle(0)", x -> x.settle(0), 3, "storage(7) = 51", "memory(5) = 50",
            "pending(0) = 0", "entry(0, 0, 0) = -1", "entry(0, 0, 1) = -1", "entry(0, 0, 2) = -1",
            "entry(0, 1, 0) = -1", "entry(0, 1, 1) = -1", "entry(0, 1, 2) = -1",
            "entry(0, 2, 0) = -1", "entry(0, 2, 1) = -1", "entry(0, 2, 2) = -1");
        changes("settle(0) again", SentencesOfPromisesTest::settled, x -> x.settle(0), 0);
        promises.says("NONE when there is no such core.");
        changes("settle(2)", x -> x.settle(2), NONE);
        changes("settle(-1)", x -> x.settle(-1), NONE);
    }

    private static StoreBufferCores settled() {
        StoreBufferCores x = livedIn();
        x.settle(0);
        return x;
    }

    private static void evict() {
        promises.says("`boolean evict(int line)`: Writes a line back: true;");
        changes("evict(7)", x -> x.evict(7), true, "storage(31) = 50", "dirty(7) = 0");
        changes("evict(1)", x -> x.evict(1), true, "storage(7) = 51", "dirty(1) = 0");
        for (int line : new int[] {0, 2, 3, 4, 5, 6}) {
            changes("evict(" + line + ")", x -> x.evict(line), true);
        }
        promises.says("false when there is no such line (0 .. 7).");
        changes("evict(8)", x -> x.evict(8), false);
        changes("evict(-1)", x -> x.evict(-1), false);
    }

    private static StoreBufferCores crashed() {
        StoreBufferCores x = LivedIn.with(3);
        x.crash();
        return x;
    }

    private static void crash() {
        StoreBufferCores x = crashed();
        promises.says("`void crash()`: All buffers become empty,");
        for (int core = 0; core < 3; core++) {
            check.due("pending(" + core + ")", x.pending(core), 0);
            check.due("entry(" + core + ", 0, 0)", x.entry(core, 0, 0), NONE);
        }
        promises.says("memory becomes what storage is,");
        for (int a = 0; a < 32; a++) {
            int due = a == 0 ? 50 : a == 8 ? 51 : a == 16 ? 52 : 0;
            check.due("memory(" + a + ")", x.memory(a), due);
            check.due("sees(1, " + a + ")", x.sees(1, a), due);
        }
        StoreBufferCores all = LivedIn.allDirty(2);
        all.evict(3);
        all.crash();
        for (int a = 0; a < 32; a++) {
            check.due("memory(" + a + ") of all", all.memory(a), a / 4 == 3 ? 100 + a : 0);
        }
        promises.says("registers become 0,");
        for (int i = 0; i < 12; i++) {
            check.due("register(" + i / 4 + ", " + i % 4 + ")", x.register(i / 4, i % 4), 0);
        }
        promises.says("the PC of each core becomes its recovery entry;");
        for (int core = 0; core < 3; core++) {
            check.due("place(" + core + ")", x.place(core), 5 + core);
        }
        promises.says("no line is dirty.");
        for (int line = 0; line < 8; line++) {
            check.due("dirty(" + line + ")", x.dirty(line), false);
            check.due("dirty(" + line + ") of all", all.dirty(line), false);
        }
        promises.says("Programs, recovery entries and storage stay.");
        programsStay();
        crashChangesNothingElse();
    }

    private static void programsStay() {
        StoreBufferCores x = new StoreBufferCores(4, 4);
        for (int i = 0; i < 96; i++) {
            x.put(i / 24, i % 24, Codes.SET, i % 3, 0, 200 + i);
        }
        x.crash();
        x.crash();
        for (int i = 0; i < 96; i++) {
            check.due("step(" + i / 24 + ")", x.step(i / 24), StoreBufferCores.DONE);
            check.due("register(" + i / 24 + ", " + i % 3 + ")", x.register(i / 24, i % 3), 200 + i);
        }
    }

    private static Object crashOf(StoreBufferCores x) {
        x.crash();
        return "";
    }

    private static void crashChangesNothingElse() {
        changes("crash()", SentencesOfPromisesTest::settledBoth, SentencesOfPromisesTest::crashOf, "",
            "memory(5) = 0", "memory(13) = 0", "memory(31) = 0",
            "dirty(1) = 0", "dirty(3) = 0", "dirty(7) = 0",
            "register(0, 1) = 0", "register(1, 0) = 0", "register(1, 1) = 0",
            "place(0) = 5", "place(1) = 6");
        changes("crash() again",
            SentencesOfPromisesTest::crashed, SentencesOfPromisesTest::crashOf, "");
    }

    private static StoreBufferCores settledBoth() {
        StoreBufferCores x = settled();
        x.settle(1);
        return x;
    }

    private static void register() {
        promises.says("`int register(int core, int k)`: Register k of a core;");
        changes("register(0, 1)", x -> x.register(0, 1), 50);
        changes("register(1, 0)", x -> x.register(1, 0), 1081);
        changes("register(1, 3)", x -> x.register(1, 3), 0);
        promises.says("0 when there is no such core or register.");
        changes("register(2, 1)", x -> x.register(2, 1), 0);
        changes("register(-1, 1)", x -> x.register(-1, 1), 0);
        changes("register(1, 4)", x -> x.register(1, 4), 0);
        changes("register(1, -1)", x -> x.register(1, -1), 0);
    }

    private static void placeAndPending() {
        promises.says("`int place(int core)`: The PC of a core (0 .. 24);");
        changes("place(0)", x -> x.place(0), 8);
        changes("place(1)", x -> x.place(1), 9);
        changes("place(0) of a crash", SentencesOfPromisesTest::crashed, x -> x.place(0), 5);
        changes("place(0) at the end", SentencesOfPromisesTest::atTheEnd, x -> x.place(0), 24);
        promises.says("NONE when there is no such core.");
        changes("place(2)", x -> x.place(2), NONE);
        changes("place(-1)", x -> x.place(-1), NONE);
        promises.says("`int pending(int core)`: How many entries are in a core's buffer;");
        changes("pending(0)", x -> x.pending(0), 3);
        changes("pending(0) once settled", SentencesOfPromisesTest::settled, x -> x.pending(0), 0);
        changes("pending(1) beside it", SentencesOfPromisesTest::settled, x -> x.pending(1), 3);
        promises.says("NONE when there is no such core.");
        changes("pending(2)", x -> x.pending(2), NONE);
        changes("pending(-1)", x -> x.pending(-1), NONE);
    }

    private static StoreBufferCores atTheEnd() {
        StoreBufferCores x = settled();
        x.run(0, 20);
        return x;
    }

    private static void entry() {
        promises.says("`int entry(int core, int k, int what)`: Of entry k of a core's buffer: "
            + "its kind for what 0;");
        int[] kinds = {StoreBufferCores.LAZY, StoreBufferCores.STORE, StoreBufferCores.ORDER, 1};
        entriesAre(0, kinds);
        promises.says("its word for a store, its line for a flush, 0 for ORDER for what 1;");
        entriesAre(1, new int[] {3, 13, 0, 4});
        promises.says("its value for a store, 0 for others for what 2.");
        entriesAre(2, new int[] {0, 51, 0, 0});
        promises.says("NONE when there is no such core, entry or what.");
        changes("entry(2, 0, 0)", x -> x.entry(2, 0, 0), NONE);
        changes("entry(-1, 0, 0)", x -> x.entry(-1, 0, 0), NONE);
        changes("entry(1, 3, 0)", x -> x.entry(1, 3, 0), NONE);
        changes("entry(1, -1, 0)", x -> x.entry(1, -1, 0), NONE);
        changes("entry(1, 0, 3)", x -> x.entry(1, 0, 3), NONE);
        changes("entry(1, 0, -1)", x -> x.entry(1, 0, -1), NONE);
    }

    /** Core 1 has a flush of line 4 behind its three other entries. */
    private static StoreBufferCores withFlush() {
        StoreBufferCores x = livedIn();
        x.put(1, 9, Codes.FLUSH, 1, 1, -32);
        x.step(1);
        return x;
    }

    private static void entriesAre(int what, int[] due) {
        for (int i = 0; i < due.length; i++) {
            int k = i;
            changes("entry(1, " + k + ", " + what + ")", SentencesOfPromisesTest::withFlush,
                x -> x.entry(1, k, what), due[k]);
        }
    }

    private static void sees() {
        promises.says("`int sees(int core, int a)`: What a core SEES at word a;");
        changes("sees(0, 5), its own store", x -> x.sees(0, 5), 50);
        changes("sees(1, 5), another's store", x -> x.sees(1, 5), 0);
        changes("sees(1, 13), its own store", x -> x.sees(1, 13), 51);
        changes("sees(0, 13), another's store", x -> x.sees(0, 13), 0);
        changes("sees(0, 7), memory", x -> x.sees(0, 7), 51);
        changes("sees(1, 31), memory", x -> x.sees(1, 31), 50);
        promises.says("0 when there is no such core or word.");
        changes("sees(2, 0)", x -> x.sees(2, 0), 0);
        changes("sees(-1, 0)", x -> x.sees(-1, 0), 0);
        changes("sees(0, 32)", x -> x.sees(0, 32), 0);
        changes("sees(0, -1)", x -> x.sees(0, -1), 0);
    }

    private static void words() {
        promises.says("`int memory(int a)`: Word a of memory;");
        changes("memory(31)", x -> x.memory(31), 50);
        changes("memory(7)", x -> x.memory(7), 51);
        changes("memory(5), not yet drained", x -> x.memory(5), 0);
        promises.says("0 when there is none.");
        changes("memory(32)", x -> x.memory(32), 0);
        changes("memory(-1)", x -> x.memory(-1), 0);
        promises.says("`int storage(int a)`: Word a of storage;");
        changes("storage(0)", x -> x.storage(0), 50);
        changes("storage(8)", x -> x.storage(8), 51);
        changes("storage(31), not yet written back", x -> x.storage(31), 0);
        promises.says("0 when there is none.");
        changes("storage(32)", x -> x.storage(32), 0);
        changes("storage(-1)", x -> x.storage(-1), 0);
    }

    private static void dirtyAndCores() {
        promises.says("`boolean dirty(int line)`: Whether a line is DIRTY;");
        for (int i = 0; i < 8; i++) {
            int line = i;
            changes("dirty(" + line + ")", x -> x.dirty(line), line == 1 || line == 7);
        }
        promises.says("false when there is none.");
        changes("dirty(8)", x -> x.dirty(8), false);
        changes("dirty(-1)", x -> x.dirty(-1), false);
        promises.says("`int cores()`: How many cores there are.");
        for (int cores = 2; cores <= 4; cores++) {
            int count = cores;
            changes("cores()", () -> LivedIn.with(count), StoreBufferCores::cores, count);
        }
    }
}
