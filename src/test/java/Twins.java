import java.util.HashMap;
import java.util.Map;
import java.util.function.Function;
import java.util.function.Supplier;
import java.util.function.ToIntFunction;

/**
 * What a call changes, and that it changes nothing else: two objects are made alike, one of them has
 * the call, and then both are looked at everywhere. Only two objects can show it, since to look at
 * a program is to run it, and since one object has no more than 512 calls.
 */
final class Twins {
    private final Check check;
    private final String call;
    private final StoreBufferCores touched;
    private final StoreBufferCores untouched;
    private final int cores;
    private final Map<String, Integer> changes = new HashMap<>();

    private Twins(Check check, String call, StoreBufferCores touched, StoreBufferCores untouched) {
        this.check = check;
        this.call = call;
        this.touched = touched;
        this.untouched = untouched;
        this.cores = untouched.cores();
    }

    /** The call answers as is due, and nothing has changed by it. */
    static void unchanged(Check check, String call, Supplier<StoreBufferCores> making,
            Function<StoreBufferCores, Object> calling, Object due) {
        changed(check, call, making, calling, due);
    }

    /** The call answers as is due, and just these looks have changed by it, each 'look = answer'. */
    static void changed(Check check, String call, Supplier<StoreBufferCores> making,
            Function<StoreBufferCores, Object> calling, Object due, String... changes) {
        Twins twins = new Twins(check, call, making.get(), making.get());
        for (String change : changes) {
            String[] sides = change.split(" = ");
            twins.changes.put(sides[0], Integer.valueOf(sides[1]));
        }
        check.due(call, calling.apply(twins.touched), due);
        twins.lookAtMemory();
        twins.lookAtCores();
        twins.lookAtRecovery();
        twins.lookAtPrograms();
        check.due("changes that no look showed", twins.changes.keySet().toString(), "[]");
    }

    private void look(String where, ToIntFunction<StoreBufferCores> looking) {
        int before = looking.applyAsInt(untouched);
        Integer change = changes.remove(where);
        check.due(where + " after " + call,
            looking.applyAsInt(touched), change == null ? before : change.intValue());
    }

    private void lookAtMemory() {
        for (int a = 0; a < 32; a++) {
            int word = a;
            look("memory(" + word + ")", x -> x.memory(word));
            look("storage(" + word + ")", x -> x.storage(word));
        }
        for (int i = 0; i < 8; i++) {
            int line = i;
            look("dirty(" + line + ")", x -> x.dirty(line) ? 1 : 0);
        }
    }

    private void lookAtCores() {
        look("cores()", StoreBufferCores::cores);
        for (int i = 0; i < cores; i++) {
            int core = i;
            look("place(" + core + ")", x -> x.place(core));
            lookAtRegisters(core, "");
            lookAtBuffer(core);
        }
    }

    private void lookAtRegisters(int core, String when) {
        for (int i = 0; i < 4; i++) {
            int k = i;
            look("register(" + core + ", " + k + ")" + when, x -> x.register(core, k));
        }
    }

    private void lookAtBuffer(int core) {
        look("pending(" + core + ")", x -> x.pending(core));
        int pending = Math.max(touched.pending(core), untouched.pending(core));
        for (int i = 0; i < 3 * pending; i++) {
            int k = i / 3;
            int what = i % 3;
            look("entry(" + core + ", " + k + ", " + what + ")", x -> x.entry(core, k, what));
        }
    }

    private void bothCrash() {
        touched.crash();
        untouched.crash();
    }

    private void lookAtRecovery() {
        bothCrash();
        for (int i = 0; i < cores; i++) {
            int core = i;
            look("place(" + core + ") with a crash", x -> x.place(core));
            look("recovery(" + core + ", 0)", x -> x.recovery(core, 0) ? 1 : 0);
        }
        bothCrash();
    }

    private void lookAtPrograms() {
        for (int i = 0; i < cores; i++) {
            int core = i;
            for (int from = 0; from < 24; from += 4) {
                String when = " with the run from " + from;
                look("run(" + core + ", 4)" + when, x -> x.run(core, 4));
                look("place(" + core + ")" + when, x -> x.place(core));
                lookAtRegisters(core, when);
            }
            lookAtBuffer(core);
        }
    }
}
