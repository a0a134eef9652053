/** The boundary cases of promises 4 and 5: step and run. */
final class BoundsOfStepTest {
    private static final Check check = new Check();
    private static final int NONE = StoreBufferCores.NONE;
    private static final int DONE = StoreBufferCores.DONE;

    public static void main(String[] args) {
        stepOfNoCore();
        stepOfFirstAndLastCore();
        runOfNoCore();
        runOfWrongTimes();
        runOfNoTimes();
        runOfOneTimeAndOfTwenty();
        runEndsAtHalt();
        runEndsAtTheEndOfTheProgram();
        runEndsWhereTheCoreWaits();
        runTakesNoStepMoreThanItWasDone();
        check.end();
    }

    private static void stepOfNoCore() {
        check.about("Promise 4, NONE when there is no such core");
        for (int cores = 2; cores <= 4; cores++) {
            int count = cores;
            for (int core : Codes.outside(cores)) {
                Twins.unchanged(check, "step(" + core + ")", () -> LivedIn.with(count),
                    x -> x.step(core), NONE);
            }
        }
    }

    private static void stepOfFirstAndLastCore() {
        check.about("Promise 4, the first and the last core");
        for (int cores = 2; cores <= 4; cores++) {
            for (int core : new int[] {0, cores - 1}) {
                StoreBufferCores x = LivedIn.with(cores);
                check.due("step(" + core + ")", x.step(core), DONE);
                for (int other = 0; other < cores; other++) {
                    int place = 8 + other + (other == core ? 1 : 0);
                    check.due("place(" + other + ")", x.place(other), place);
                }
            }
        }
    }

    private static void runOfNoCore() {
        check.about("Promise 5, NONE, doing nothing, when there is no such core");
        for (int cores = 2; cores <= 4; cores++) {
            for (int core : Codes.outside(cores)) {
                runIs(cores, core, 1, NONE);
                runIs(cores, core, 0, NONE);
                runIs(cores, core, 20, NONE);
            }
        }
    }

    private static void runIs(int cores, int core, int n, int due) {
        Twins.unchanged(check, "run(" + core + ", " + n + ")", () -> LivedIn.with(cores),
            x -> x.run(core, n), due);
    }

    private static void runOfWrongTimes() {
        check.about("Promise 5, NONE, doing nothing, when n is not 0 .. 20");
        for (int n : Codes.outside(21)) {
            runIs(2, 0, n, NONE);
            runIs(3, 2, n, NONE);
        }
    }

    private static void runOfNoTimes() {
        check.about("Promise 5, n is 0");
        runIs(2, 0, 0, 0);
        runIs(4, 3, 0, 0);
    }

    private static void runOfOneTimeAndOfTwenty() {
        check.about("Promise 5, n times at most");
        for (int n : new int[] {1, 2, 19, 20}) {
            StoreBufferCores x = allSet(24);
            check.due("run(0, " + n + ")", x.run(0, n), n);
            check.due("place(0)", x.place(0), n);
            check.due("place(1)", x.place(1), 0);
        }
    }

    private static StoreBufferCores allSet(int count) {
        StoreBufferCores x = new StoreBufferCores(2, 1);
        for (int i = 0; i < count; i++) {
            x.put(0, i, Codes.SET, 1, 0, i + 1);
        }
        return x;
    }

    private static void runEndsAtHalt() {
        check.about("Promise 5, until the answer is not DONE: HALT");
        StoreBufferCores x = allSet(3);
        x.put(0, 4, Codes.SET, 1, 0, 77);
        check.due("run(0, 3)", x.run(0, 3), 3);
        check.due("run(0, 20)", x.run(0, 20), 0);
        x.crash();
        check.due("run(0, 4)", x.run(0, 4), 3);
        check.due("place(0)", x.place(0), 3);
        check.due("register(0, 1)", x.register(0, 1), 3);
    }

    private static void runEndsAtTheEndOfTheProgram() {
        check.about("Promise 5, until the answer is not DONE: PC is 24");
        StoreBufferCores x = allSet(24);
        check.due("run(0, 20)", x.run(0, 20), 20);
        check.due("run(0, 20)", x.run(0, 20), 4);
        check.due("place(0)", x.place(0), 24);
        check.due("run(0, 20)", x.run(0, 20), 0);
        check.due("run(0, 0)", x.run(0, 0), 0);
        check.due("place(0)", x.place(0), 24);
        check.due("register(0, 1)", x.register(0, 1), 24);
    }

    private static void runEndsWhereTheCoreWaits() {
        check.about("Promise 5, until the answer is not DONE: the core WAITS");
        StoreBufferCores x = allSet(2);
        x.put(0, 2, Codes.ORDER, 0, 0, 0);
        x.put(0, 3, Codes.FENCE, 0, 0, 0);
        x.put(0, 4, Codes.SET, 1, 0, 77);
        check.due("run(0, 20)", x.run(0, 20), 3);
        check.due("run(0, 20)", x.run(0, 20), 0);
        check.due("place(0)", x.place(0), 3);
        x.settle(0);
        check.due("run(0, 20)", x.run(0, 20), 2);
        check.due("register(0, 1)", x.register(0, 1), 77);
    }

    private static void runTakesNoStepMoreThanItWasDone() {
        check.about("Promise 5, answers how often it was DONE: a loop has no end of its own");
        StoreBufferCores x = Codes.with(2, 4,
            Codes.SET, 1, 0, 1, Codes.ADD, 2, 1, 0, Codes.BRANCH, 1, 0, 1);
        check.due("run(0, 20)", x.run(0, 20), 20);
        check.due("register(0, 2)", x.register(0, 2), 10);
        check.due("place(0)", x.place(0), 2);
        check.due("run(0, 20)", x.run(0, 20), 20);
        check.due("register(0, 2)", x.register(0, 2), 20);
    }
}
