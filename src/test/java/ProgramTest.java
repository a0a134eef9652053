/** Promises 2 and 3: put and recovery. */
final class ProgramTest {
    private static final Check check = new Check();

    public static void main(String[] args) {
        everyPlaceAndCoreTakesAnInstruction();
        everyCodeIsTaken();
        anyNumberButForBranch();
        wrongNumbersAreRefused();
        refusedPutChangesNothing();
        putReplacesWhileRunning();
        recoveryEntries();
        wrongRecoveryEntries();
        check.end();
    }

    private static void everyPlaceAndCoreTakesAnInstruction() {
        StoreBufferCores x = new StoreBufferCores(4, 4);
        for (int core = 0; core < 4; core++) {
            for (int i = 0; i < 24; i++) {
                check.due("put", x.put(core, i, Codes.SET, i & 3, 0, 100 * core + i), true);
            }
        }
        for (int core = 0; core < 4; core++) {
            for (int i = 0; i < 24; i++) {
                check.due("step", x.step(core), StoreBufferCores.DONE);
                check.due("register", x.register(core, i & 3), 100 * core + i);
            }
            check.due("place", x.place(core), 24);
        }
    }

    private static void everyCodeIsTaken() {
        StoreBufferCores x = new StoreBufferCores(2, 4);
        for (int code = 0; code <= 10; code++) {
            check.due("put of code " + code, x.put(1, code, code, 3, 3, 23), true);
        }
    }

    private static void anyNumberButForBranch() {
        for (int n : new int[] {24, -1, Integer.MAX_VALUE, Integer.MIN_VALUE}) {
            StoreBufferCores x = new StoreBufferCores(2, 4);
            for (int code = 0; code <= 9; code++) {
                check.due("put of code " + code + " with " + n, x.put(0, code, code, 0, 0, n), true);
            }
            check.due("put of BRANCH with " + n, x.put(0, 10, Codes.BRANCH, 0, 0, n), false);
        }
        StoreBufferCores x = new StoreBufferCores(2, 4);
        check.due("put of BRANCH with 0", x.put(0, 0, Codes.BRANCH, 0, 0, 0), true);
        check.due("put of BRANCH with 23", x.put(0, 0, Codes.BRANCH, 0, 0, 23), true);
    }

    private static void wrongNumbersAreRefused() {
        StoreBufferCores x = new StoreBufferCores(3, 4);
        for (int core : Codes.outside(3)) {
            check.due("put(" + core + ", ..)", x.put(core, 0, Codes.SET, 0, 0, 1), false);
        }
        for (int i : Codes.outside(24)) {
            check.due("put(0, " + i + ", ..)", x.put(0, i, Codes.SET, 0, 0, 1), false);
        }
        for (int code : Codes.outside(11)) {
            check.due("put(0, 0, " + code + ", ..)", x.put(0, 0, code, 0, 0, 1), false);
        }
        for (int k : Codes.outside(4)) {
            for (int code = 0; code <= 10; code++) {
                check.due("put with x " + k, x.put(0, 0, code, k, 0, 1), false);
                check.due("put with y " + k, x.put(0, 0, code, 0, k, 1), false);
            }
        }
        for (int n : Codes.outside(24)) {
            check.due("BRANCH to " + n, x.put(0, 0, Codes.BRANCH, 0, 0, n), false);
        }
        check.due("step(0)", x.step(0), StoreBufferCores.HALTED);
    }

    private static void refusedPutChangesNothing() {
        StoreBufferCores x = Codes.with(2, 4, Codes.SET, 2, 0, 9);
        check.due("put with a wrong code", x.put(0, 0, 11, 1, 0, 7), false);
        check.due("put with a wrong x", x.put(0, 0, Codes.SET, 4, 0, 7), false);
        check.due("put with a wrong y", x.put(0, 0, Codes.SET, 1, 4, 7), false);
        check.due("put with a wrong n", x.put(0, 0, Codes.BRANCH, 1, 0, 24), false);
        check.due("step(0)", x.step(0), StoreBufferCores.DONE);
        check.due("register(0, 2)", x.register(0, 2), 9);
        check.due("register(0, 1)", x.register(0, 1), 0);
        check.due("place(0)", x.place(0), 1);
    }

    private static void putReplacesWhileRunning() {
        StoreBufferCores x = Codes.with(2, 4, Codes.SET, 0, 0, 1, Codes.HALT, 0, 0, 0);
        check.due("run(0, 5)", x.run(0, 5), 1);
        check.due("put", x.put(0, 1, Codes.ADD, 0, 0, 0), true);
        check.due("run(0, 5)", x.run(0, 5), 1);
        check.due("register(0, 0)", x.register(0, 0), 2);
        check.due("register(1, 0)", x.register(1, 0), 0);
        x.crash();
        check.due("run(0, 5) after a crash", x.run(0, 5), 2);
    }

    private static void recoveryEntries() {
        StoreBufferCores x = new StoreBufferCores(4, 4);
        check.due("recovery(0, 0)", x.recovery(0, 0), true);
        check.due("recovery(1, 23)", x.recovery(1, 23), true);
        check.due("recovery(3, 5)", x.recovery(3, 5), true);
        check.due("place(1)", x.place(1), 0);
        x.crash();
        check.due("place(0)", x.place(0), 0);
        check.due("place(1)", x.place(1), 23);
        check.due("place(2)", x.place(2), 0);
        check.due("place(3)", x.place(3), 5);
        x.recovery(1, 2);
        check.due("place(1)", x.place(1), 23);
        x.crash();
        check.due("place(1)", x.place(1), 2);
        check.due("place(3)", x.place(3), 5);
    }

    private static void wrongRecoveryEntries() {
        StoreBufferCores x = new StoreBufferCores(2, 4);
        x.recovery(1, 7);
        for (int i : Codes.outside(24)) {
            check.due("recovery(1, " + i + ")", x.recovery(1, i), false);
        }
        for (int core : Codes.outside(2)) {
            check.due("recovery(" + core + ", 3)", x.recovery(core, 3), false);
        }
        x.crash();
        check.due("place(0)", x.place(0), 0);
        check.due("place(1)", x.place(1), 7);
    }
}
