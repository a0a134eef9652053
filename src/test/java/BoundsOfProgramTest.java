/** The boundary cases of promises 2 and 3: each refused number, and the last ones that are taken. */
final class BoundsOfProgramTest {
    private static final Check check = new Check();
    private static final int DONE = StoreBufferCores.DONE;

    public static void main(String[] args) {
        putRefusesWrongCores();
        putRefusesWrongPlaces();
        putRefusesWrongCodes();
        putRefusesWrongX();
        putRefusesWrongY();
        putRefusesWrongBranches();
        putTakesFirstAndLastCoreAndPlace();
        putTakesFirstAndLastCode();
        putTakesFirstAndLastRegisters();
        putTakesFirstAndLastBranch();
        putTakesAnyNumberForOtherCodes();
        recoveryRefusesWrongCores();
        recoveryRefusesWrongPlaces();
        recoveryTakesFirstAndLastPlace();
        check.end();
    }

    private static void putIsRefused(int cores, int core, int i, int code, int x, int y, int n) {
        String call = "put(" + core + ", " + i + ", " + code + ", " + x + ", " + y + ", " + n + ")";
        Twins.unchanged(check, call, () -> LivedIn.with(cores),
            it -> it.put(core, i, code, x, y, n), false);
    }

    private static void putRefusesWrongCores() {
        check.about("Promise 2, there is no such core");
        for (int cores = 2; cores <= 4; cores++) {
            for (int core : Codes.outside(cores)) {
                putIsRefused(cores, core, 0, Codes.SET, 0, 0, 9);
            }
        }
    }

    private static void putRefusesWrongPlaces() {
        check.about("Promise 2, i is not 0 .. 23");
        for (int i : Codes.outside(24)) {
            putIsRefused(2, 0, i, Codes.SET, 0, 0, 9);
            putIsRefused(2, 1, i, Codes.SET, 0, 0, 9);
        }
    }

    private static void putRefusesWrongCodes() {
        check.about("Promise 2, code not 0 .. 10");
        for (int code : Codes.outside(11)) {
            putIsRefused(2, 0, 0, code, 0, 0, 9);
            putIsRefused(2, 1, 23, code, 3, 3, 9);
        }
    }

    private static void putRefusesWrongX() {
        check.about("Promise 2, x not 0 .. 3");
        for (int x : Codes.outside(4)) {
            for (int code = 0; code <= 10; code++) {
                putIsRefused(2, 0, 1, code, x, 0, 9);
            }
        }
    }

    private static void putRefusesWrongY() {
        check.about("Promise 2, y not 0 .. 3");
        for (int y : Codes.outside(4)) {
            for (int code = 0; code <= 10; code++) {
                putIsRefused(2, 1, 2, code, 0, y, 9);
            }
        }
    }

    private static void putRefusesWrongBranches() {
        check.about("Promise 2, code is 10 and n not 0 .. 23");
        for (int n : Codes.outside(24)) {
            putIsRefused(2, 0, 0, Codes.BRANCH, 0, 0, n);
            putIsRefused(2, 0, 23, Codes.BRANCH, 3, 3, n);
        }
    }

    private static void putTakesFirstAndLastCoreAndPlace() {
        check.about("Promise 2, the first and the last core and place");
        for (int cores = 2; cores <= 4; cores++) {
            for (int core : new int[] {0, cores - 1}) {
                putIsTaken(cores, core, 0);
                putIsTaken(cores, core, 23);
            }
        }
    }

    private static void putIsTaken(int cores, int core, int i) {
        StoreBufferCores x = new StoreBufferCores(cores, 4);
        check.due("put(" + core + ", " + i + ", 1, 2, 0, 9)", x.put(core, i, 1, 2, 0, 9), true);
        x.recovery(core, i);
        x.crash();
        check.due("step(" + core + ") at " + i, x.step(core), DONE);
        check.due("register(" + core + ", 2)", x.register(core, 2), 9);
        for (int other = 0; other < cores; other++) {
            x.recovery(other, i == 0 ? 1 : 22);
        }
        x.crash();
        for (int other = 0; other < cores; other++) {
            check.due("step(" + other + ") beside " + i, x.step(other), StoreBufferCores.HALTED);
        }
    }

    private static void putTakesFirstAndLastCode() {
        check.about("Promise 2, the first and the last code");
        StoreBufferCores x = Codes.with(2, 4, Codes.SET, 1, 0, 1, Codes.SET, 1, 0, 2);
        check.due("put of code 10", x.put(0, 1, 10, 1, 0, 7), true);
        x.run(0, 2);
        check.due("place(0)", x.place(0), 7);
        check.due("put of code 0", x.put(0, 0, 0, 1, 0, 7), true);
        x.crash();
        check.due("step(0)", x.step(0), StoreBufferCores.HALTED);
    }

    private static void putTakesFirstAndLastRegisters() {
        check.about("Promise 2, the first and the last register");
        for (int k : new int[] {0, 3}) {
            for (int code = 0; code <= 10; code++) {
                StoreBufferCores x = new StoreBufferCores(2, 4);
                check.due("put of " + code, x.put(0, 0, code, k, 3 - k, 9), true);
                check.due("put of " + code, x.put(0, 0, code, k, k, 9), true);
            }
        }
        StoreBufferCores x = Codes.with(2, 4,
            Codes.SET, 0, 0, 5, Codes.SET, 3, 0, 6, Codes.ADD, 3, 0, 0, Codes.ADD, 0, 3, 0);
        x.run(0, 4);
        check.due("register(0, 3)", x.register(0, 3), 11);
        check.due("register(0, 0)", x.register(0, 0), 16);
    }

    private static void putTakesFirstAndLastBranch() {
        check.about("Promise 2, code is 10 and n 0 or 23");
        for (int n : new int[] {0, 1, 22, 23}) {
            StoreBufferCores x = Codes.with(2, 4, Codes.SET, 1, 0, 1);
            check.due("put of BRANCH to " + n, x.put(0, 1, Codes.BRANCH, 1, 0, n), true);
            x.run(0, 2);
            check.due("place(0)", x.place(0), n);
        }
    }

    private static void putTakesAnyNumberForOtherCodes() {
        check.about("Promise 2, any n when code is not 10");
        for (int n : new int[] {-1, 24, 32, Integer.MAX_VALUE, Integer.MIN_VALUE}) {
            for (int code = 0; code <= 9; code++) {
                StoreBufferCores x = Codes.with(2, 4, Codes.BRANCH, 0, 0, 23);
                check.due("put of " + code + " with " + n, x.put(0, 0, code, 0, 1, n), true);
                check.due("step(0)", x.step(0), code == 0 ? StoreBufferCores.HALTED : DONE);
                check.due("register(0, 0)", x.register(0, 0), code == Codes.SET ? n : 0);
            }
        }
    }

    private static void recoveryIsRefused(int cores, int core, int i) {
        Twins.unchanged(check, "recovery(" + core + ", " + i + ")", () -> LivedIn.with(cores),
            it -> it.recovery(core, i), false);
    }

    private static void recoveryRefusesWrongCores() {
        check.about("Promise 3, there is no such core");
        for (int cores = 2; cores <= 4; cores++) {
            for (int core : Codes.outside(cores)) {
                recoveryIsRefused(cores, core, 3);
            }
        }
    }

    private static void recoveryRefusesWrongPlaces() {
        check.about("Promise 3, i is not 0 .. 23");
        for (int i : Codes.outside(24)) {
            recoveryIsRefused(2, 0, i);
            recoveryIsRefused(2, 1, i);
        }
    }

    private static void recoveryTakesFirstAndLastPlace() {
        check.about("Promise 3, the first and the last core and place");
        for (int cores = 2; cores <= 4; cores++) {
            for (int i : new int[] {0, 1, 22, 23}) {
                for (int core : new int[] {0, cores - 1}) {
                    recoveryIsTaken(cores, core, i);
                }
            }
        }
    }

    private static void recoveryIsTaken(int cores, int core, int i) {
        StoreBufferCores x = new StoreBufferCores(cores, 4);
        for (int other = 0; other < cores; other++) {
            x.recovery(other, 10);
        }
        check.due("recovery(" + core + ", " + i + ")", x.recovery(core, i), true);
        check.due("place(" + core + ") before a crash", x.place(core), 0);
        x.crash();
        for (int other = 0; other < cores; other++) {
            check.due("place(" + other + ")", x.place(other), other == core ? i : 10);
        }
    }
}
