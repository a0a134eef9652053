/** Promises 1 and 18: a new object, and how many cores it has. */
final class NewObjectTest {
    private static final Check check = new Check();

    public static void main(String[] args) {
        countsOfCores();
        roomOfBuffers();
        everythingIsZero();
        allInstructionsAreHalt();
        objectsShareNothing();
        check.end();
    }

    private static void countsOfCores() {
        for (int cores = 2; cores <= 4; cores++) {
            check.due("cores() of " + cores, new StoreBufferCores(cores, 4).cores(), cores);
        }
        for (int cores : new int[] {1, 0, -1, 5, 6, Integer.MAX_VALUE, Integer.MIN_VALUE}) {
            StoreBufferCores x = new StoreBufferCores(cores, 4);
            check.due("cores() of " + cores, x.cores(), 2);
            check.due("place(1) of " + cores, x.place(1), 0);
            check.due("place(2) of " + cores, x.place(2), StoreBufferCores.NONE);
        }
    }

    private static void roomOfBuffers() {
        for (int room = 1; room <= 8; room++) {
            check.due("entries in room " + room, entriesTaken(room), room);
        }
        for (int room : new int[] {0, -1, 9, 10, Integer.MAX_VALUE, Integer.MIN_VALUE}) {
            check.due("entries in room " + room, entriesTaken(room), 4);
        }
    }

    private static int entriesTaken(int room) {
        StoreBufferCores x = new StoreBufferCores(2, room);
        for (int core = 0; core < 2; core++) {
            for (int i = 0; i < 20; i++) {
                x.put(core, i, Codes.ORDER, 0, 0, 0);
            }
        }
        int ran = x.run(1, 20);
        check.due("run(0, 20) in room " + room, x.run(0, 20), ran);
        check.due("pending(1) in room " + room, x.pending(1), ran);
        return ran;
    }

    private static void everythingIsZero() {
        StoreBufferCores x = new StoreBufferCores(4, 8);
        for (int core = 0; core < 4; core++) {
            check.due("place", x.place(core), 0);
            check.due("pending", x.pending(core), 0);
            for (int k = 0; k < 4; k++) {
                check.due("register", x.register(core, k), 0);
            }
        }
        for (int a = 0; a < 32; a++) {
            check.due("memory", x.memory(a), 0);
            check.due("storage", x.storage(a), 0);
            check.due("sees", x.sees(3, a), 0);
        }
        for (int line = 0; line < 8; line++) {
            check.due("dirty", x.dirty(line), false);
        }
        x.crash();
        for (int core = 0; core < 4; core++) {
            check.due("place after a crash", x.place(core), 0);
        }
    }

    private static void allInstructionsAreHalt() {
        StoreBufferCores x = new StoreBufferCores(2, 4);
        for (int i = 0; i < 24; i++) {
            x.recovery(1, i);
            x.crash();
            check.due("step(1) at " + i, x.step(1), StoreBufferCores.HALTED);
            check.due("place(1) at " + i, x.place(1), i);
        }
    }

    private static void objectsShareNothing() {
        StoreBufferCores one = Codes.with(2, 4, Codes.SET, 1, 0, 5, Codes.STORE, 1, 0, 6);
        StoreBufferCores other = new StoreBufferCores(2, 4);
        one.run(0, 2);
        one.settle(0);
        one.evict(1);
        check.due("step(0) of another", other.step(0), StoreBufferCores.HALTED);
        check.due("register(0, 1) of another", other.register(0, 1), 0);
        check.due("memory(6) of another", other.memory(6), 0);
        check.due("storage(6) of another", other.storage(6), 0);
    }
}
