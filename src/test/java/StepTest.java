/** Promises 4 and 5: step and run, with every instruction. */
final class StepTest {
    private static final Check check = new Check();
    private static final int DONE = StoreBufferCores.DONE;
    private static final int HALTED = StoreBufferCores.HALTED;

    public static void main(String[] args) {
        haltChangesNothing();
        endOfProgramIsHalted();
        loadSeesItsOwnNewestStore();
        loadUsesItsAddressBeforeItsRegister();
        swapThatFindsR0();
        swapThatDoesNot();
        swapLooksAtMemoryNotStorage();
        branches();
        storeTakesTheValueOfItsMoment();
        runs();
        check.end();
    }

    private static void haltChangesNothing() {
        StoreBufferCores x = Codes.with(2, 4, Codes.ORDER, 0, 0, 0, Codes.HALT, 1, 2, 9);
        check.due("step(0)", x.step(0), DONE);
        check.due("step(0)", x.step(0), HALTED);
        check.due("step(0)", x.step(0), HALTED);
        check.due("place(0)", x.place(0), 1);
        check.due("pending(0)", x.pending(0), 1);
    }

    private static void endOfProgramIsHalted() {
        StoreBufferCores x = new StoreBufferCores(2, 4);
        x.put(0, 23, Codes.FENCE, 0, 0, 0);
        x.recovery(0, 23);
        x.crash();
        check.due("step(0)", x.step(0), DONE);
        check.due("place(0)", x.place(0), 24);
        check.due("step(0)", x.step(0), HALTED);
        check.due("run(0, 20)", x.run(0, 20), 0);
        check.due("place(0)", x.place(0), 24);
        x.crash();
        check.due("place(0)", x.place(0), 23);
    }

    private static void loadSeesItsOwnNewestStore() {
        StoreBufferCores x = Codes.with(2, 8,
            Codes.SET, 0, 0, 1, Codes.SET, 1, 0, 2, Codes.STORE, 0, 3, 9, Codes.STORE, 1, 3, 9,
            Codes.STORE, 0, 3, 10, Codes.LAZY, 0, 3, 9, Codes.LOAD, 2, 3, 9, Codes.LOAD, 2, 3, 11);
        Codes.load(x, 1, Codes.LOAD, 2, 0, 9, Codes.LOAD, 2, 0, 9);
        x.run(0, 7);
        check.due("register(0, 2)", x.register(0, 2), 2);
        x.step(0);
        check.due("register(0, 2)", x.register(0, 2), 0);
        x.step(1);
        check.due("register(1, 2)", x.register(1, 2), 0);
        x.drain(0, 0);
        x.step(1);
        check.due("register(1, 2)", x.register(1, 2), 1);
        check.due("pending(1)", x.pending(1), 0);
    }

    private static void loadUsesItsAddressBeforeItsRegister() {
        StoreBufferCores x = Codes.with(2, 8,
            Codes.SET, 1, 0, 5, Codes.STORE, 1, 1, 1, Codes.LOAD, 1, 1, 1, Codes.SET, 1, 0, 40,
            Codes.LOAD, 1, 1, 0);
        x.run(0, 3);
        check.due("register(0, 1)", x.register(0, 1), 5);
        x.run(0, 2);
        check.due("register(0, 1)", x.register(0, 1), 0);
    }

    private static void swapThatFindsR0() {
        StoreBufferCores x = Codes.with(2, 4,
            Codes.SET, 2, 0, 8, Codes.SWAP, 2, 3, 13, Codes.SET, 0, 0, 8, Codes.SWAP, 0, 3, 13);
        check.due("run(0, 2)", x.run(0, 2), 2);
        check.due("memory(13)", x.memory(13), 8);
        check.due("storage(13)", x.storage(13), 0);
        check.due("register(0, 0)", x.register(0, 0), 0);
        check.due("register(0, 2)", x.register(0, 2), 8);
        check.due("dirty(3)", x.dirty(3), true);
        x.evict(3);
        check.due("run(0, 2)", x.run(0, 2), 2);
        check.due("memory(13)", x.memory(13), 8);
        check.due("dirty(3) by the same value", x.dirty(3), true);
    }

    private static void swapThatDoesNot() {
        StoreBufferCores x = Codes.with(2, 4,
            Codes.SET, 2, 0, 8, Codes.STORE, 2, 0, 4, Codes.SWAP, 2, 0, 4, Codes.SWAP, 3, 1, 4);
        x.run(0, 2);
        x.settle(0);
        x.evict(1);
        check.due("step(0)", x.step(0), DONE);
        check.due("register(0, 0)", x.register(0, 0), 8);
        check.due("register(0, 2)", x.register(0, 2), 8);
        check.due("memory(4)", x.memory(4), 8);
        check.due("dirty(1)", x.dirty(1), false);
        check.due("step(0)", x.step(0), DONE);
        check.due("memory(4)", x.memory(4), 0);
        check.due("register(0, 0)", x.register(0, 0), 8);
        check.due("dirty(1)", x.dirty(1), true);
    }

    private static void swapLooksAtMemoryNotStorage() {
        StoreBufferCores x = Codes.with(2, 4,
            Codes.SET, 2, 0, 8, Codes.STORE, 2, 3, 4, Codes.SWAP, 1, 3, 4, Codes.SWAP, 1, 3, 4);
        x.run(0, 2);
        x.settle(0);
        check.due("storage(4)", x.storage(4), 0);
        check.due("step(0)", x.step(0), DONE);
        check.due("memory(4)", x.memory(4), 8);
        check.due("register(0, 0)", x.register(0, 0), 8);
        check.due("step(0)", x.step(0), DONE);
        check.due("memory(4)", x.memory(4), 0);
    }

    private static void branches() {
        StoreBufferCores x = Codes.with(2, 4,
            Codes.BRANCH, 1, 0, 5, Codes.SET, 1, 0, -1, Codes.BRANCH, 1, 0, 23);
        x.put(0, 23, Codes.BRANCH, 1, 0, 0);
        check.due("step(0)", x.step(0), DONE);
        check.due("place(0)", x.place(0), 1);
        x.run(0, 2);
        check.due("place(0)", x.place(0), 23);
        x.step(0);
        check.due("place(0)", x.place(0), 0);
        check.due("register(0, 1)", x.register(0, 1), -1);
        x.put(0, 0, Codes.BRANCH, 1, 0, 0);
        check.due("run(0, 20) of a loop", x.run(0, 20), 20);
        check.due("place(0)", x.place(0), 0);
    }

    private static void storeTakesTheValueOfItsMoment() {
        StoreBufferCores x = Codes.with(2, 4,
            Codes.SET, 1, 0, 3, Codes.STORE, 1, 0, 2, Codes.SET, 1, 0, 4, Codes.SET, 0, 0, 1);
        x.run(0, 4);
        x.settle(0);
        check.due("memory(2)", x.memory(2), 3);
        check.due("memory(3)", x.memory(3), 0);
    }

    private static void runs() {
        StoreBufferCores x = Codes.with(2, 2,
            Codes.ORDER, 0, 0, 0, Codes.SET, 1, 0, 1, Codes.ORDER, 0, 0, 0, Codes.ORDER, 0, 0, 0);
        check.due("run(0, 0)", x.run(0, 0), 0);
        check.due("place(0)", x.place(0), 0);
        check.due("run(0, 1)", x.run(0, 1), 1);
        check.due("place(0)", x.place(0), 1);
        check.due("run(0, 20)", x.run(0, 20), 2);
        check.due("run(0, 20)", x.run(0, 20), 0);
        x.settle(0);
        check.due("run(0, 20)", x.run(0, 20), 1);
        check.due("place(0)", x.place(0), 4);
        check.due("place(1)", x.place(1), 0);
    }
}
