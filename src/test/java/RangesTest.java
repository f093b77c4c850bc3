import java.util.Set;
import java.util.TreeSet;
import java.util.function.IntFunction;
import java.util.function.LongFunction;

/**
 * Every argument that the document bounds: the least and the greatest value that is taken, all between
 * them, those just beyond them, and many far away. Each value is tried on a new kernel.
 */
public final class RangesTest {
    private static final Set<Integer> INTS = ints();
    private static final Set<Long> LONGS = longs();

    public static void main(String[] args) {
        process();
        instruct();
        operands();
        resourceAndTank();
        activateInterruptKill();
        run();
        queriesOfProcesses();
        queriesOfResourcesAndTanks();
        Script.end();
    }

    /** The document's bounds and their neighbours, and what a narrowing to 8 or 16 bits would take for them. */
    private static Set<Integer> ints() {
        Set<Integer> values = new TreeSet<>();
        for (int near : new int[] {0, 128, 256, 1000, 32768, 65536, 1000000, 1 << 24, 1 << 30}) {
            for (int i = -20; i <= 70; i++) {
                values.add(near + i);
                values.add(-near - i);
            }
        }
        for (int i = 0; i < 20; i++) {
            values.add(Integer.MAX_VALUE - i);
            values.add(Integer.MIN_VALUE + i);
        }
        return values;
    }

    private static Set<Long> longs() {
        Set<Long> values = new TreeSet<>();
        for (long near : new long[] {0, 1000, 1L << 31, 1L << 32, 1000000000000L, 1L << 62}) {
            for (int i = -5; i <= 5; i++) {
                values.add(near + i);
                values.add(-near - i);
            }
        }
        for (int i = 0; i < 5; i++) {
            values.add(Long.MAX_VALUE - i);
            values.add(Long.MIN_VALUE + i);
        }
        return values;
    }

    private static void range(String name, int least, int greatest, IntFunction<Object> call, Object taken, Object not) {
        for (int value : INTS) {
            boolean within = value >= least && value <= greatest;
            Script.due(name + " " + value, call.apply(value), within ? taken : not);
        }
    }

    private static void times(String name, long least, long greatest, LongFunction<Object> call, Object taken, Object not) {
        for (long value : LONGS) {
            boolean within = value >= least && value <= greatest;
            Script.due(name + " " + value, call.apply(value), within ? taken : not);
        }
    }

    /** A kernel with this many processes, which are NEW. */
    private static BatonKernel with(int processes) {
        BatonKernel kernel = new BatonKernel();
        for (int p = 0; p < processes; p++) {
            kernel.process(0, 1, 0);
        }
        return kernel;
    }

    /** A kernel with this many processes, which are PASSIVE. */
    private static BatonKernel withPassive(int processes) {
        BatonKernel kernel = with(processes);
        for (int p = 0; p < processes; p++) {
            kernel.instruct(p, 1, 0, 0);
            kernel.activate(p, 0);
        }
        kernel.run(processes, 0);
        return kernel;
    }

    private static void process() {
        range("process: priority -4 .. 4", -4, 4, v -> with(0).process(v, 1, 0), 0, -1);
        range("process: rounds 1 .. 9", 1, 9, v -> with(0).process(0, v, 0), 0, -1);
        range("process: handler 0 .. 10", 0, 10, v -> with(0).process(0, 1, v), 0, -1);
        for (int made = 0; made <= 20; made++) {
            BatonKernel kernel = with(made);
            Script.due("process: number " + made, kernel.process(4, 9, 10), made < 12 ? made : -1);
            Script.due("process: -5 of " + made, kernel.process(-5, 9, 10), -1);
        }
    }

    private static void instruct() {
        for (int made : new int[] {0, 1, 2, 11, 12, 13}) {
            int last = Math.min(made, 12) - 1;
            range("instruct: p of " + made, 0, last, v -> with(made).instruct(v, 1, 0, 0), true, false);
        }
        range("instruct: op 0 .. 9", 0, 9, v -> with(1).instruct(0, v, 0, 1), true, false);
        for (int length = 0; length <= 15; length++) {
            BatonKernel kernel = with(2);
            for (int i = 0; i < length; i++) {
                kernel.instruct(0, 1, 0, 0);
            }
            Script.due("instruct: behind " + length, kernel.instruct(0, 1, 0, 0), length < 10);
            Script.due("instruct: another, behind " + length, kernel.instruct(1, 1, 0, 0), true);
        }
    }

    private static void operands() {
        int[] greatestA = {1000000, 0, 3, 3, 3, 3, 11, 11, 11, 11};
        int[] greatestB = {0, 0, 9, 9, 1000, 1000, 0, 0, 0, 0};
        for (int i = 0; i < 10; i++) {
            int op = i;
            if (op == 1) {
                range("op 1: a is not looked at", Integer.MIN_VALUE, Integer.MAX_VALUE,
                        v -> with(1).instruct(0, op, v, v), true, false);
            } else {
                range("op " + op + ": a", 0, greatestA[op], v -> with(1).instruct(0, op, v, 1), true, false);
            }
            if (op >= 2 && op <= 5) {
                range("op " + op + ": b", 1, greatestB[op], v -> with(1).instruct(0, op, 0, v), true, false);
                range("op " + op + ": b of 3", 1, greatestB[op], v -> with(1).instruct(0, op, 3, v), true, false);
            } else {
                range("op " + op + ": b is not looked at", Integer.MIN_VALUE, Integer.MAX_VALUE,
                        v -> with(1).instruct(0, op, 0, v), true, false);
            }
        }
    }

    private static void resourceAndTank() {
        range("resource: r 0 .. 3", 0, 3, v -> with(0).resource(v, 1, true), true, false);
        range("resource: units 0 .. 9", 0, 9, v -> with(0).resource(3, v, false), true, false);
        range("tank: t 0 .. 3", 0, 3, v -> with(0).tank(v, 1000, 1000), true, false);
        range("tank: capacity 0 .. 1000", 0, 1000, v -> with(0).tank(0, v, 0), true, false);
        for (int capacity : new int[] {0, 1, 2, 63, 999, 1000}) {
            range("tank: level of " + capacity, 0, capacity, v -> with(0).tank(3, capacity, v), true, false);
        }
        for (int beyond : new int[] {-1, 1001, Integer.MAX_VALUE, Integer.MIN_VALUE}) {
            range("tank: level of " + beyond, 1, 0, v -> with(0).tank(0, beyond, v), true, false);
        }
        range("tank: as full as it can be", 0, 1000, v -> with(0).tank(0, v, v), true, false);
    }

    private static void activateInterruptKill() {
        range("activate: delay 0 .. 1000000", 0, 1000000, v -> with(1).activate(0, v), true, false);
        range("activate: delay of a PASSIVE one", 0, 1000000, v -> withPassive(1).activate(0, v), true, false);
        for (int made : new int[] {0, 1, 2, 11, 12, 13}) {
            int last = Math.min(made, 12) - 1;
            range("activate: p of " + made, 0, last, v -> with(made).activate(v, 0), true, false);
            range("interrupt: p of " + made, 0, last, v -> withPassive(made).interrupt(v), true, false);
            range("kill: p of " + made, 0, last, v -> with(made).kill(v), true, false);
        }
    }

    private static BatonKernel at(long clock) {
        BatonKernel kernel = new BatonKernel();
        kernel.run(1, clock);
        return kernel;
    }

    private static void run() {
        range("run: n 0 .. 100", 0, 100, v -> with(0).run(v, 0), 0, -1);
        for (long clock : new long[] {0, 1, 1000, 1L << 31, 1L << 32, 999999999999L, 1000000000000L}) {
            times("run: until, from " + clock, clock, 1000000000000L, v -> at(clock).run(1, v), 0, -1);
            times("run: until, from " + clock + ", no event", clock, 1000000000000L, v -> at(clock).run(0, v), 0, -1);
        }
    }

    private static void queriesOfProcesses() {
        for (int made : new int[] {0, 1, 2, 11, 12, 13}) {
            int last = Math.min(made, 12) - 1;
            range("state: p of " + made, 0, last, v -> withPassive(made).state(v), 3, -1);
            range("place: p of " + made, 0, last, v -> withPassive(made).place(v), 1, -1);
            range("held: p of " + made, 0, last, v -> with(made).held(v, 3), 0, -1);
        }
        range("held: r 0 .. 3", 0, 3, v -> with(1).held(0, v), 0, -1);
        range("held: r where there is no process", 1, 0, v -> with(0).held(0, v), 0, -1);
    }

    private static void queriesOfResourcesAndTanks() {
        range("free: r 0 .. 3", 0, 3, v -> with(0).free(v), 1, -1);
        range("waiting: r 0 .. 4", 0, 4, v -> with(0).waiting(v), 0, -1);
        range("area: r 0 .. 3", 0, 3, v -> with(0).area(v), 0L, -1L);
        range("waited: r 0 .. 3", 0, 3, v -> with(0).waited(v), 0L, -1L);
        range("level: t 0 .. 3", 0, 3, v -> with(0).level(v), 0, -1);
        for (int events : new int[] {0, 1, 2, 12}) {
            range("traced: k, after " + events, 0, events - 1, v -> withPassive(events).traced(v) >= 0, true, false);
            range("traced: -1, after " + events, 0, events - 1, v -> withPassive(events).traced(v) == -1, false, true);
        }
    }
}
