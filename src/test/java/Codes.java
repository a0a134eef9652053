/** The codes of instructions, as the document numbers them, and numbers that are none of anything. */
final class Codes {
    static final int HALT = 0, SET = 1, LOAD = 2, STORE = 3, ADD = 4, SWAP = 5;
    static final int FENCE = 6, ORDER = 7, FLUSH = 8, LAZY = 9, BRANCH = 10;

    private Codes() {
    }

    /** Numbers that lie outside 0 .. bound - 1, its two neighbours first. */
    static int[] outside(int bound) {
        return new int[] {-1, bound, bound + 1, 1000, -1000, Integer.MAX_VALUE, Integer.MIN_VALUE};
    }

    /** An object whose core 0 has these instructions, four numbers each, from place 0 on. */
    static StoreBufferCores with(int cores, int room, int... program) {
        StoreBufferCores x = new StoreBufferCores(cores, room);
        load(x, 0, program);
        return x;
    }

    static void load(StoreBufferCores x, int core, int... program) {
        for (int i = 0; i < program.length / 4; i++) {
            int at = i * 4;
            if (!x.put(core, i, program[at], program[at + 1], program[at + 2], program[at + 3])) {
                throw new IllegalArgumentException("no such instruction at place " + i);
            }
        }
    }
}
