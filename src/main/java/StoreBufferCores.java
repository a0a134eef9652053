/**
 * A few cores that share a memory which outlives a crash only as far as its lines have been
 * written back. The numbered promises of DOC.md say what each call must do.
 */
public final class StoreBufferCores {
    public static final int NONE = -1;
    public static final int DONE = 0, WAITS = 1, HALTED = 2;
    public static final int STORE = 0, FLUSH = 1, LAZY = 2, ORDER = 3;

    private static final int WORDS = 32;
    private static final int WORDS_OF_LINE = 4;
    private static final int LINES = WORDS / WORDS_OF_LINE;
    private static final int REGISTERS = 4;
    private static final int PLACES = 24;
    private static final int LONGEST_RUN = 20;

    private static final int CODE_HALT = 0;
    private static final int CODE_SET = 1;
    private static final int CODE_LOAD = 2;
    private static final int CODE_STORE = 3;
    private static final int CODE_ADD = 4;
    private static final int CODE_SWAP = 5;
    private static final int CODE_FENCE = 6;
    private static final int CODE_ORDER = 7;
    private static final int CODE_FLUSH = 8;
    private static final int CODE_LAZY = 9;
    private static final int CODE_BRANCH = 10;

    private final SharedMemory shared;
    private final Core[] row;

    public StoreBufferCores(int cores, int room) {
        int coreCount = cores >= 2 && cores <= 4 ? cores : 2;
        int entryCount = room >= 1 && room <= 8 ? room : 4;
        shared = new SharedMemory();
        row = new Core[coreCount];
        for (int i = 0; i < coreCount; i++) {
            row[i] = new Core(entryCount);
        }
    }

    public boolean put(int core, int i, int code, int x, int y, int n) {
        if (!isCore(core) || !isPlace(i) || code < CODE_HALT || code > CODE_BRANCH) {
            return false;
        }
        if (!isRegister(x) || !isRegister(y) || (code == CODE_BRANCH && !isPlace(n))) {
            return false;
        }
        row[core].setInstruction(i, code, x, y, n);
        return true;
    }

    public boolean recovery(int core, int i) {
        if (!isCore(core) || !isPlace(i)) {
            return false;
        }
        row[core].recoveryEntry = i;
        return true;
    }

    public int step(int core) {
        return isCore(core) ? row[core].doInstruction(shared) : NONE;
    }

    public int run(int core, int n) {
        if (!isCore(core) || n < 0 || n > LONGEST_RUN) {
            return NONE;
        }
        for (int done = 0; done < n; done++) {
            if (row[core].doInstruction(shared) != DONE) {
                return done;
            }
        }
        return n;
    }

    public boolean drain(int core, int k) {
        if (!isEntry(core, k) || !row[core].buffer.mayLeave(k)) {
            return false;
        }
        row[core].buffer.letOut(k, shared);
        return true;
    }

    public int settle(int core) {
        if (!isCore(core)) {
            return NONE;
        }
        Buffer buffer = row[core].buffer;
        int entries = buffer.count;
        for (int out = 0; out < entries; out++) {
            buffer.letOut(0, shared);
        }
        return entries;
    }

    public boolean evict(int line) {
        if (!isLine(line)) {
            return false;
        }
        shared.writeBack(line);
        return true;
    }

    public void crash() {
        shared.fallBackToStorage();
        for (int i = 0; i < row.length; i++) {
            row[i].beginAgain();
        }
    }

    public int register(int core, int k) {
        return isCore(core) && isRegister(k) ? row[core].registers[k] : 0;
    }

    public int place(int core) {
        return isCore(core) ? row[core].pc : NONE;
    }

    public int pending(int core) {
        return isCore(core) ? row[core].buffer.count : NONE;
    }

    public int entry(int core, int k, int what) {
        if (!isEntry(core, k)) {
            return NONE;
        }
        Buffer buffer = row[core].buffer;
        switch (what) {
            case 0:
                return buffer.kinds[k];
            case 1:
                return buffer.targets[k];
            case 2:
                return buffer.values[k];
            default:
                return NONE;
        }
    }

    public int sees(int core, int a) {
        return isCore(core) && isWord(a) ? row[core].buffer.newestValue(a, shared.words[a]) : 0;
    }

    public int memory(int a) {
        return isWord(a) ? shared.words[a] : 0;
    }

    public int storage(int a) {
        return isWord(a) ? shared.stored[a] : 0;
    }

    public boolean dirty(int line) {
        return isLine(line) && shared.unwritten[line];
    }

    public int cores() {
        return row.length;
    }

    private boolean isCore(int core) {
        return core >= 0 && core < row.length;
    }

    private boolean isEntry(int core, int k) {
        return isCore(core) && k >= 0 && k < row[core].buffer.count;
    }

    private static boolean isPlace(int i) {
        return i >= 0 && i < PLACES;
    }

    private static boolean isRegister(int k) {
        return k >= 0 && k < REGISTERS;
    }

    private static boolean isWord(int a) {
        return a >= 0 && a < WORDS;
    }

    private static boolean isLine(int line) {
        return line >= 0 && line < LINES;
    }

    /** Memory, the storage behind it, and which lines are dirty. */
    private static final class SharedMemory {
        private final int[] words = new int[WORDS];
        private final int[] stored = new int[WORDS];
        private final boolean[] unwritten = new boolean[LINES];

        // The same value dirties a line too, so nothing is compared here.
        private void write(int word, int value) {
            words[word] = value;
            unwritten[word / WORDS_OF_LINE] = true;
        }

        private void writeBack(int line) {
            int first = line * WORDS_OF_LINE;
            for (int word = first; word < first + WORDS_OF_LINE; word++) {
                stored[word] = words[word];
            }
            unwritten[line] = false;
        }

        private void fallBackToStorage() {
            for (int word = 0; word < WORDS; word++) {
                words[word] = stored[word];
            }
            for (int line = 0; line < LINES; line++) {
                unwritten[line] = false;
            }
        }
    }

    /** The entries of one core, the oldest first; what stands behind count is stale. */
    private static final class Buffer {
        private final int[] kinds;
        // The word of a store, the line of a flush, 0 for ORDER.
        private final int[] targets;
        private final int[] values;
        private int count;

        private Buffer(int room) {
            kinds = new int[room];
            targets = new int[room];
            values = new int[room];
        }

        private boolean isFull() {
            return count >= kinds.length;
        }

        private void append(int kind, int target, int value) {
            if (isFull()) {
                return;
            }
            kinds[count] = kind;
            targets[count] = target;
            values[count] = value;
            count++;
        }

        private int newestValue(int word, int otherwise) {
            for (int k = count - 1; k >= 0; k--) {
                if (kinds[k] == STORE && targets[k] == word) {
                    return values[k];
                }
            }
            return otherwise;
        }

        private boolean mayLeave(int k) {
            for (int older = 0; older < k; older++) {
                if (!letsPass(older, k)) {
                    return false;
                }
            }
            return true;
        }

        private boolean letsPass(int older, int later) {
            int first = kinds[older];
            int second = kinds[later];
            if (first == ORDER || second == ORDER) {
                return false;
            }
            // A later flush that is not lazy is held back by a lazy one of its own line.
            if (first == LAZY && second != FLUSH) {
                return true;
            }
            return (first == LAZY || second == LAZY) && lineOf(older) != lineOf(later);
        }

        private int lineOf(int k) {
            return kinds[k] == STORE ? targets[k] / WORDS_OF_LINE : targets[k];
        }

        private void letOut(int k, SharedMemory shared) {
            if (kinds[k] == STORE) {
                shared.write(targets[k], values[k]);
            } else if (kinds[k] != ORDER) {
                shared.writeBack(targets[k]);
            }
            remove(k);
        }

        private void remove(int k) {
            count--;
            for (int i = k; i < count; i++) {
                kinds[i] = kinds[i + 1];
                targets[i] = targets[i + 1];
                values[i] = values[i + 1];
            }
        }
    }

    /** One core: its registers, its program and its buffer. */
    private static final class Core {
        private final int[] registers = new int[REGISTERS];
        private final int[] codes = new int[PLACES];
        private final int[] xs = new int[PLACES];
        private final int[] ys = new int[PLACES];
        private final int[] numbers = new int[PLACES];
        private final Buffer buffer;
        private int pc;
        private int recoveryEntry;

        private Core(int room) {
            buffer = new Buffer(room);
        }

        private void setInstruction(int i, int code, int x, int y, int n) {
            codes[i] = code;
            xs[i] = x;
            ys[i] = y;
            numbers[i] = n;
        }

        private int doInstruction(SharedMemory shared) {
            if (pc >= PLACES || codes[pc] == CODE_HALT) {
                return HALTED;
            }
            if (mustWait(codes[pc])) {
                return WAITS;
            }
            int next = nextPlace();
            perform(shared);
            pc = next;
            return DONE;
        }

        private boolean mustWait(int code) {
            switch (code) {
                case CODE_STORE:
                case CODE_ORDER:
                case CODE_FLUSH:
                case CODE_LAZY:
                    return buffer.isFull();
                case CODE_SWAP:
                case CODE_FENCE:
                    return buffer.count > 0;
                default:
                    return false;
            }
        }

        private int nextPlace() {
            boolean branches = codes[pc] == CODE_BRANCH && registers[xs[pc]] != 0;
            return branches ? numbers[pc] : pc + 1;
        }

        private void perform(SharedMemory shared) {
            int x = xs[pc];
            int y = ys[pc];
            int n = numbers[pc];
            int address = (registers[y] + n) & (WORDS - 1);
            switch (codes[pc]) {
                case CODE_SET:
                    registers[x] = n;
                    break;
                case CODE_LOAD:
                    registers[x] = buffer.newestValue(address, shared.words[address]);
                    break;
                case CODE_STORE:
                    buffer.append(STORE, address, registers[x]);
                    break;
                case CODE_ADD:
                    registers[x] = registers[x] + registers[y];
                    break;
                case CODE_SWAP:
                    swap(address, x, shared);
                    break;
                case CODE_ORDER:
                    buffer.append(ORDER, 0, 0);
                    break;
                case CODE_FLUSH:
                    buffer.append(FLUSH, address / WORDS_OF_LINE, 0);
                    break;
                case CODE_LAZY:
                    buffer.append(LAZY, address / WORDS_OF_LINE, 0);
                    break;
                default:
                    // FENCE and BRANCH change nothing but the place.
                    break;
            }
        }

        private void swap(int address, int x, SharedMemory shared) {
            if (shared.words[address] == registers[0]) {
                shared.write(address, registers[x]);
            } else {
                registers[0] = shared.words[address];
            }
        }

        private void beginAgain() {
            buffer.count = 0;
            for (int k = 0; k < REGISTERS; k++) {
                registers[k] = 0;
            }
            pc = recoveryEntry;
        }
    }
}
