/** Promises 1 and 18: a new object, and how many cores it has. */
final class NewObjectTest {
    private static final Check check = new Check();

    public static void main(String[] args) {
        everythingIsZero();
        objectsShareNothing();
        check.end();
    }

    private static void everythingIsZero() {
        StoreBufferCores x = new StoreBufferCores(4, 8);
        for (int core = 0; core < 4; core++) {
            check.due("place", x.place(core), 0);
            check.due("pending", x.pending(core), 0);
            for (int k = 0; k < 4; k++) {
                check.due("register", x.register(core, k), 0);
            }
        }
        for (int a = 0; a < 32; a++) {
            check.due("memory", x.memory(a), 0);
            check.due("storage", x.storage(a), 0);
            check.due("sees", x.sees(3, a), 0);
        }
        for (int line = 0; line < 8; line++) {
            check.due("dirty", x.dirty(line), false);
        }
        x.crash();
        for (int core = 0; core < 4; core++) {
            check.due("place after a crash", x.place(core), 0);
        }
    }

    private static void objectsShareNothing() {
        StoreBufferCores one = Codes.with(2, 4, Codes.SET, 1, 0, 5, Codes.STORE, 1, 0, 6);
        StoreBufferCores other = new StoreBufferCores(2, 4);
        one.run(0, 2);
        one.settle(0);
        one.evict(1);
        check.due("step(0) of another", other.step(0), StoreBufferCores.HALTED);
        check.due("register(0, 1) of another", other.register(0, 1), 0);
        check.due("memory(6) of another", other.memory(6), 0);
        check.due("storage(6) of another", other.storage(6), 0);
    }
}
