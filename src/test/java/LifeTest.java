import java.io.IOException;
import java.util.function.Function;

/** 'What it is', sentence by sentence: the story of one crash, and an object's 512th call. */
final class LifeTest {
    private static final Check check = new Check();
    private static final int NONE = StoreBufferCores.NONE;
    private static final int TURNS = 253;

    private static Sentences whatItIs;

    public static void main(String[] args) throws IOException {
        whatItIs = new Sentences(check, "## What it is", "## The public face");
        story();
        lastCallOfALife();
        whatItIs.end();
        check.end();
    }

    private static void story() {
        StoreBufferCores x = Codes.with(2, 4, Codes.SET, 1, 0, 7, Codes.STORE, 1, 0, 4,
            Codes.STORE, 1, 0, 8, Codes.LAZY, 0, 0, 4, Codes.LAZY, 0, 0, 12);
        Codes.load(x, 1, Codes.LOAD, 3, 0, 4, Codes.LOAD, 2, 0, 4);
        x.recovery(0, 3);
        x.run(0, 5);
        x.step(1);
        whatItIs.says("A few cores that share a memory");
        x.drain(0, 0);
        x.step(1);
        check.due("register(1, 2), what core 0 has put into memory", x.register(1, 2), 7);
        whatItIs.says("which outlives a crash only as far as its lines have been written back:");
        x.evict(1);
        StoreBufferCores other = Codes.with(2, 4, Codes.SET, 1, 0, 7, Codes.STORE, 1, 0, 4);
        other.run(0, 2);
        other.settle(0);
        other.crash();
        check.due("memory(4), not written back", other.memory(4), 0);
        whatItIs.says("each core stores into a buffer of its own,");
        check.due("register(1, 3), before the drain", x.register(1, 3), 0);
        check.due("pending(0)", x.pending(0), 3);
        check.due("pending(1)", x.pending(1), 0);
        whatItIs.says("from which stores, flushes and fences leave in an order that the caller "
            + "chooses as far as it is free,");
        check.due("drain(0, 2), a lazy flush before both", x.drain(0, 2), true);
        check.due("drain(0, 1), a lazy flush before the store", x.drain(0, 1), true);
        check.due("pending(0)", x.pending(0), 1);
        whatItIs.says("and after a crash all cores begin again at their recovery entries.");
        x.crash();
        check.due("memory(4), written back", x.memory(4), 7);
        check.due("memory(8), never put", x.memory(8), 0);
        check.due("place(0)", x.place(0), 3);
        check.due("place(1)", x.place(1), 0);
        check.due("run(0, 20)", x.run(0, 20), 2);
        check.due("run(1, 20)", x.run(1, 20), 2);
    }

    /** An object with 5 calls behind it and two more for each turn, which counts in R2. */
    private static StoreBufferCores after(int turns) {
        StoreBufferCores x = Codes.with(2, 8, Codes.SET, 1, 0, 1,
            Codes.ADD, 2, 1, 0, Codes.STORE, 2, 0, 9, Codes.BRANCH, 1, 0, 1);
        check.due("step(0)", x.step(0), StoreBufferCores.DONE);
        for (int turn = 0; turn < turns; turn++) {
            check.due("run(0, 3) in turn " + turn, x.run(0, 3), 3);
            check.due("drain(0, 0) in turn " + turn, x.drain(0, 0), true);
        }
        return x;
    }

    private static void isLast(String call, Function<StoreBufferCores, Object> calling, Object due) {
        check.due(call + " as the 512th call", calling.apply(after(TURNS)), due);
    }

    private static void lastCallOfALife() {
        whatItIs.says("An object is used for at most 512 calls after it has been made; "
            + "what later calls answer is free.");
        isLast("put", x -> x.put(1, 23, 10, 3, 3, 23), true);
        isLast("put of no instruction", x -> x.put(1, 23, 10, 3, 3, 24), false);
        isLast("recovery", x -> x.recovery(1, 23), true);
        isLast("step", x -> x.step(0), StoreBufferCores.DONE);
        isLast("run", x -> x.run(0, 20), 20);
        isLast("drain", x -> x.drain(0, 0), false);
        isLast("settle", x -> x.settle(0), 0);
        isLast("evict", x -> x.evict(2), true);
        isLast("register", x -> x.register(0, 2), TURNS);
        isLast("place", x -> x.place(0), 1);
        isLast("pending", x -> x.pending(0), 0);
        isLast("entry", x -> x.entry(0, 0, 0), NONE);
        isLast("sees", x -> x.sees(1, 9), TURNS);
        isLast("memory", x -> x.memory(9), TURNS);
        isLast("storage", x -> x.storage(9), 0);
        isLast("dirty", x -> x.dirty(2), true);
        isLast("cores", StoreBufferCores::cores, 2);
        crashNearTheEnd();
    }

    private static void crashNearTheEnd() {
        StoreBufferCores x = after(TURNS - 2);
        check.due("evict(2) as the 508th call", x.evict(2), true);
        check.due("run(0, 4)", x.run(0, 4), 4);
        x.crash();
        check.due("place(0)", x.place(0), 0);
        check.due("memory(9) as the 512th call", x.memory(9), TURNS - 2);
    }
}
