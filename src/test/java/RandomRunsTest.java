import java.util.Random;

/** All promises at once: random calls, the same at every run of the test, compared with the model. */
final class RandomRunsTest {
    private static final int OBJECTS = 4000;
    // So many calls has an object in its life; lookEverywhere has some of them for each core.
    private static final int CALLS = 512;
    private static final int LAST_LOOKS = 73;
    private static final int LAST_LOOKS_OF_CORE = 14;
    private static final int[] WILD = {
        -1, 4, 8, 9, 20, 21, 24, 31, 32, 33, Integer.MAX_VALUE, Integer.MIN_VALUE};

    private final Check check = new Check();
    private final Random random;
    private final String name;
    private final StoreBufferCores real;
    private final Model model;

    public static void main(String[] args) {
        for (int seed = 0; seed < OBJECTS; seed++) {
            RandomRunsTest test = new RandomRunsTest(seed);
            test.allCalls();
            if (!test.check.allDue()) {
                test.check.end();
            }
        }
        System.out.println("all answers are as due");
    }

    private RandomRunsTest(int seed) {
        random = new Random(seed);
        int cores = random.nextInt(7);
        int room = random.nextInt(11);
        name = "seed " + seed + ", new(" + cores + ", " + room + "): ";
        real = new StoreBufferCores(cores, room);
        model = new Model(cores, room);
    }

    private void allCalls() {
        for (int i = 0; i < 30; i++) {
            putSomething();
        }
        int lastLooks = LAST_LOOKS + LAST_LOOKS_OF_CORE * model.cores();
        for (int i = 30; i < CALLS - lastLooks; i++) {
            if (random.nextInt(3) == 0) {
                lookSomewhere();
            } else {
                changeSomething();
            }
        }
        // Each turn above is one call, so that with these looks an object has all its calls.
        lookEverywhere();
    }

    /** Mostly 0 .. bound - 1, now and then a number far off. */
    private int number(int bound) {
        return random.nextInt(25) == 0 ? WILD[random.nextInt(WILD.length)] : random.nextInt(bound);
    }

    private int core() {
        return number(model.cores());
    }

    private void putSomething() {
        int core = core();
        int i = random.nextBoolean() ? number(8) : number(24);
        int code = random.nextInt(3) == 0 ? number(11) : new int[] {1, 3, 8, 9}[random.nextInt(4)];
        int x = number(4);
        int y = number(4);
        int n = random.nextInt(10) == 0 ? random.nextInt() : random.nextInt(24);
        check.due(name + "put(" + core + ", " + i + ", " + code + ", " + x + ", " + y + ", " + n + ")",
            real.put(core, i, code, x, y, n), model.put(core, i, code, x, y, n));
    }

    private void changeSomething() {
        int core = core();
        int n = number(21);
        int k = number(8);
        // The numbers weigh the calls: a crash or a settle is seldom, a step or a drain is common.
        switch (random.nextInt(32)) {
            case 0, 1 -> putSomething();
            case 2, 3 -> check.due(name + "recovery(" + core + ", " + n + ")",
                real.recovery(core, n), model.recovery(core, n));
            case 4, 5, 6, 7, 8, 9, 10, 11 -> check.due(name + "step(" + core + ")",
                real.step(core), model.step(core));
            case 12, 13, 14, 15 -> check.due(name + "run(" + core + ", " + n + ")",
                real.run(core, n), model.run(core, n));
            case 16, 17 -> check.due(name + "settle(" + core + ")",
                real.settle(core), model.settle(core));
            case 18, 19 -> check.due(name + "evict(" + k + ")", real.evict(k), model.evict(k));
            case 20 -> bothCrash();
            default -> check.due(name + "drain(" + core + ", " + k + ")",
                real.drain(core, k), model.drain(core, k));
        }
    }

    private void bothCrash() {
        real.crash();
        model.crash();
    }

    private void lookSomewhere() {
        int core = core();
        int a = number(32);
        switch (random.nextInt(8)) {
            case 0 -> lookAtRegister(core, number(4));
            case 1 -> lookAtEntry(core, number(8), number(3));
            case 2 -> check.due(name + "place(" + core + ")", real.place(core), model.place(core));
            case 3 -> check.due(name + "pending(" + core + ")",
                real.pending(core), model.pending(core));
            case 4 -> lookAtWord(a);
            case 5 -> check.due(name + "storage(" + a + ")", real.storage(a), model.storage(a));
            case 6 -> check.due(name + "sees(" + core + ", " + a + ")",
                real.sees(core, a), model.sees(core, a));
            default -> lookAtLine(number(8));
        }
    }

    private void lookAtRegister(int core, int k) {
        check.due(name + "register(" + core + ", " + k + ")",
            real.register(core, k), model.register(core, k));
    }

    private void lookAtEntry(int core, int k, int what) {
        check.due(name + "entry(" + core + ", " + k + ", " + what + ")",
            real.entry(core, k, what), model.entry(core, k, what));
    }

    private void lookAtWord(int a) {
        check.due(name + "memory(" + a + ")", real.memory(a), model.memory(a));
    }

    private void lookAtLine(int line) {
        check.due(name + "dirty(" + line + ")", real.dirty(line), model.dirty(line));
    }

    private void lookEverywhere() {
        check.due(name + "cores()", real.cores(), model.cores());
        for (int core = 0; core < model.cores(); core++) {
            check.due(name + "place(" + core + ")", real.place(core), model.place(core));
            check.due(name + "pending(" + core + ")", real.pending(core), model.pending(core));
            for (int k = 0; k < 4; k++) {
                lookAtRegister(core, k);
            }
            for (int k = 0; k < 8; k++) {
                lookAtEntry(core, k, 1 + k % 2);
            }
        }
        for (int a = 0; a < 32; a++) {
            lookAtWord(a);
            check.due(name + "storage(" + a + ")", real.storage(a), model.storage(a));
        }
        for (int line = 0; line < 8; line++) {
            lookAtLine(line);
        }
    }
}
