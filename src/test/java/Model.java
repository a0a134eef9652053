import java.util.ArrayList;
import java.util.Arrays;
import java.util.List;

/** The document said a second time, as near to its words as Java allows, to compare answers with. */
final class Model {
    private record Instruction(int code, int x, int y, int n) {
    }

    private record Entry(int kind, int address, int value) {
        boolean is(int... kinds) {
            return Arrays.stream(kinds).anyMatch(k -> k == kind);
        }

        int line() {
            return address / 4;
        }
    }

    private static final class Core {
        final int[] r = new int[4];
        final Instruction[] program = new Instruction[24];
        final List<Entry> buffer = new ArrayList<>();
        int pc;
        int recovery;
    }

    private static final int NONE = -1, DONE = 0, WAITS = 1, HALTED = 2;
    private static final int STORE = 0, FLUSH = 1, LAZY = 2, ORDER = 3;

    private final int room;
    private final List<Core> cores = new ArrayList<>();
    private final int[] memory = new int[32];
    private final int[] storage = new int[32];
    private final boolean[] dirty = new boolean[8];

    Model(int cores, int room) {
        this.room = List.of(1, 2, 3, 4, 5, 6, 7, 8).contains(room) ? room : 4;
        int count = List.of(2, 3, 4).contains(cores) ? cores : 2;
        for (int i = 0; i < count; i++) {
            Core core = new Core();
            Arrays.fill(core.program, new Instruction(0, 0, 0, 0));
            this.cores.add(core);
        }
    }

    private static boolean in(int number, int first, int last) {
        return first <= number && number <= last;
    }

    private boolean has(int core) {
        return in(core, 0, cores.size() - 1);
    }

    boolean put(int core, int i, int code, int x, int y, int n) {
        boolean fine = has(core) && in(i, 0, 23) && in(code, 0, 10) && in(x, 0, 3) && in(y, 0, 3)
            && (code != 10 || in(n, 0, 23));
        if (fine) {
            cores.get(core).program[i] = new Instruction(code, x, y, n);
        }
        return fine;
    }

    boolean recovery(int core, int i) {
        boolean fine = has(core) && in(i, 0, 23);
        if (fine) {
            cores.get(core).recovery = i;
        }
        return fine;
    }

    int step(int core) {
        if (!has(core)) {
            return NONE;
        }
        Core c = cores.get(core);
        if (c.pc == 24 || c.program[c.pc].code == 0) {
            return HALTED;
        }
        Instruction it = c.program[c.pc];
        int address = (c.r[it.y] + it.n) & 31;
        if (List.of(3, 7, 8, 9).contains(it.code)) {
            if (c.buffer.size() == room) {
                return WAITS;
            }
            if (it.code == 3) {
                c.buffer.add(new Entry(STORE, address, c.r[it.x]));
            } else {
                int kind = it.code == 7 ? ORDER : it.code == 8 ? FLUSH : LAZY;
                c.buffer.add(new Entry(kind, kind == ORDER ? 0 : address, 0));
            }
        }
        if (List.of(5, 6).contains(it.code) && !c.buffer.isEmpty()) {
            return WAITS;
        }
        c.pc++;
        if (it.code == 1) {
            c.r[it.x] = it.n;
        } else if (it.code == 2) {
            c.r[it.x] = sees(core, address);
        } else if (it.code == 4) {
            c.r[it.x] += c.r[it.y];
        } else if (it.code == 5 && memory[address] == c.r[0]) {
            memory[address] = c.r[it.x];
            dirty[address / 4] = true;
        } else if (it.code == 5) {
            c.r[0] = memory[address];
        } else if (it.code == 10 && c.r[it.x] != 0) {
            c.pc = it.n;
        }
        return DONE;
    }

    int run(int core, int n) {
        if (!has(core) || !in(n, 0, 20)) {
            return NONE;
        }
        int done = 0;
        while (done < n && step(core) == DONE) {
            done++;
        }
        return done;
    }

    private static boolean letsPass(Entry older, Entry later) {
        boolean lazyBeforeStoreOrLazy = older.is(LAZY) && later.is(STORE, LAZY);
        boolean lazyAndOther = older.is(LAZY) && later.is(STORE, FLUSH, LAZY)
            || later.is(LAZY) && older.is(STORE, FLUSH, LAZY);
        return lazyBeforeStoreOrLazy || lazyAndOther && older.line() != later.line();
    }

    private boolean hasEntry(int core, int k) {
        return has(core) && in(k, 0, cores.get(core).buffer.size() - 1);
    }

    boolean drain(int core, int k) {
        if (!hasEntry(core, k)) {
            return false;
        }
        List<Entry> buffer = cores.get(core).buffer;
        Entry leaves = buffer.get(k);
        if (!buffer.subList(0, k).stream().allMatch(older -> letsPass(older, leaves))) {
            return false;
        }
        buffer.remove(k);
        if (leaves.is(STORE)) {
            memory[leaves.address] = leaves.value;
            dirty[leaves.line()] = true;
        } else if (leaves.is(FLUSH, LAZY)) {
            evict(leaves.line());
        }
        return true;
    }

    int settle(int core) {
        if (!has(core)) {
            return NONE;
        }
        int drained = 0;
        while (drain(core, 0)) {
            drained++;
        }
        return drained;
    }

    boolean evict(int line) {
        if (!in(line, 0, 7)) {
            return false;
        }
        System.arraycopy(memory, 4 * line, storage, 4 * line, 4);
        dirty[line] = false;
        return true;
    }

    void crash() {
        System.arraycopy(storage, 0, memory, 0, 32);
        Arrays.fill(dirty, false);
        for (Core core : cores) {
            core.buffer.clear();
            Arrays.fill(core.r, 0);
            core.pc = core.recovery;
        }
    }

    int register(int core, int k) {
        return has(core) && in(k, 0, 3) ? cores.get(core).r[k] : 0;
    }

    int place(int core) {
        return has(core) ? cores.get(core).pc : NONE;
    }

    int pending(int core) {
        return has(core) ? cores.get(core).buffer.size() : NONE;
    }

    int entry(int core, int k, int what) {
        if (!hasEntry(core, k) || !in(what, 0, 2)) {
            return NONE;
        }
        Entry entry = cores.get(core).buffer.get(k);
        int target = entry.is(STORE) ? entry.address : entry.line();
        return what == 0 ? entry.kind : what == 1 ? target : entry.value;
    }

    int sees(int core, int a) {
        if (!has(core) || !in(a, 0, 31)) {
            return 0;
        }
        int seen = memory[a];
        for (Entry entry : cores.get(core).buffer) {
            if (entry.is(STORE) && entry.address == a) {
                seen = entry.value;
            }
        }
        return seen;
    }

    int memory(int a) {
        return in(a, 0, 31) ? memory[a] : 0;
    }

    int storage(int a) {
        return in(a, 0, 31) ? storage[a] : 0;
    }

    boolean dirty(int line) {
        return in(line, 0, 7) && dirty[line];
    }

    int cores() {
        return cores.size();
    }
}
