/** Promises 2 and 3: put and recovery. */
final class ProgramTest {
    private static final Check check = new Check();

    public static void main(String[] args) {
        everyPlaceAndCoreTakesAnInstruction();
        everyCodeIsTaken();
        putReplacesWhileRunning();
        recoveryEntries();
        check.end();
    }

    private static void everyPlaceAndCoreTakesAnInstruction() {
        StoreBufferCores x = new StoreBufferCores(4, 4);
        for (int core = 0; core < 4; core++) {
            for (int i = 0; i < 24; i++) {
                check.due("put", x.put(core, i, Codes.SET, i & 3, 0, 100 * core + i), true);
            }
        }
        for (int core = 0; core < 4; core++) {
            for (int i = 0; i < 24; i++) {
                check.due("step", x.step(core), StoreBufferCores.DONE);
                check.due("register", x.register(core, i & 3), 100 * core + i);
            }
            check.due("place", x.place(core), 24);
        }
    }

    private static void everyCodeIsTaken() {
        StoreBufferCores x = new StoreBufferCores(2, 4);
        for (int code = 0; code <= 10; code++) {
            check.due("put of code " + code, x.put(1, code, code, 3, 3, 23), true);
        }
    }

    private static void putReplacesWhileRunning() {
        StoreBufferCores x = Codes.with(2, 4, Codes.SET, 0, 0, 1, Codes.HALT, 0, 0, 0);
        check.due("run(0, 5)", x.run(0, 5), 1);
        check.due("put", x.put(0, 1, Codes.ADD, 0, 0, 0), true);
        check.due("run(0, 5)", x.run(0, 5), 1);
        check.due("register(0, 0)", x.register(0, 0), 2);
        check.due("register(1, 0)", x.register(1, 0), 0);
        x.crash();
        check.due("run(0, 5) after a crash", x.run(0, 5), 2);
    }

    private static void recoveryEntries() {
        StoreBufferCores x = new StoreBufferCores(4, 4);
        check.due("recovery(0, 0)", x.recovery(0, 0), true);
        check.due("recovery(1, 23)", x.recovery(1, 23), true);
        check.due("recovery(3, 5)", x.recovery(3, 5), true);
        check.due("place(1)", x.place(1), 0);
        x.crash();
        check.due("place(0)", x.place(0), 0);
        check.due("place(1)", x.place(1), 23);
        check.due("place(2)", x.place(2), 0);
        check.due("place(3)", x.place(3), 5);
        x.recovery(1, 2);
        check.due("place(1)", x.place(1), 23);
        x.crash();
        check.due("place(1)", x.place(1), 2);
        check.due("place(3)", x.place(3), 5);
    }
}
