import java.util.Map;
import java.util.TreeMap;

/** Long made-up runs of calls, each answer compared with that of PlainModel. The runs are always the same. */
public final class ModelTest {
    private static final int RUNS = 20000;
    private static final int CALLS = 512;
    private static final int MOST_TOLD = 20;
    private static final Map<String, Integer> seen = new TreeMap<>();
    private static final int[][] BODIES = {
        {0, 0, 0, 1, 2, 2, 2, 2, 3, 3, 4, 4, 5, 5, 6, 7, 7, 8, 8, 9},
        {0, 0, 0, 0, 1, 2, 2, 2, 2, 2, 3, 3, 7, 8},
        {0, 0, 0, 4, 4, 4, 4, 5, 5, 5, 6, 7, 8, 9},
    };
    private static final String[] MUST_BE_SEEN = {
        "condition 4", "condition 5", "condition 6",
        "interrupt HOLDING", "interrupt PASSIVE", "interrupt QUEUED", "interrupt WAITING",
        "kill NEW", "kill READY", "kill HOLDING", "kill PASSIVE", "kill QUEUED", "kill WAITING",
        "loser READY", "loser HOLDING", "loser PASSIVE", "loser QUEUED", "loser QUEUED there", "loser WAITING",
        "loser ENDED", "loser KILLED", "losers 1", "losers 2", "losers 3",
        "line behind a force of 0", "line behind a force of 1", "line behind a force of 2",
    };

    private final BatonKernel kernel = new BatonKernel();
    private final PlainModel model = new PlainModel();
    private final int run;
    // What the bodies of this run are mostly made of.
    private final int[] ops;
    private long seed;
    private int calls = 0;
    private int processes = 0;
    private boolean same = true;

    private ModelTest(int run) {
        this.run = run;
        this.ops = BODIES[run % BODIES.length];
        this.seed = run * 7919L + 12345L;
    }

    public static void main(String[] args) {
        int wrong = 0;
        for (int run = 0; run < RUNS && wrong < MOST_TOLD; run++) {
            ModelTest test = new ModelTest(run);
            test.go();
            wrong += test.same ? 0 : 1;
            test.model.seen.forEach((what, times) -> seen.merge(what, times, Integer::sum));
        }
        for (String what : MUST_BE_SEEN) {
            if (seen.getOrDefault(what, 0) < 20) {
                System.out.println("the runs hardly reach: " + what);
                wrong++;
            }
        }
        if (args.length > 0) {
            System.out.println(seen);
        }
        System.out.println(RUNS + " runs of " + CALLS + " calls, " + wrong + " wrong");
        if (wrong > 0) {
            System.exit(1);
        }
    }

    /** A number from 0 to below bound, always the same ones for the same run. */
    private int any(int bound) {
        seed = seed * 6364136223846793005L + 1442695040888963407L;
        return (int) ((seed >>> 33) % bound);
    }

    /** Mostly a number from least to greatest, at times one beyond them. */
    private int about(int least, int greatest) {
        if (any(25) > 0) {
            return least + any(greatest - least + 1);
        }
        int[] beyond = {least - 1, greatest + 1, Integer.MIN_VALUE, Integer.MAX_VALUE};
        return beyond[any(4)];
    }

    private void go() {
        int firstProcesses = 1 + any(12);
        for (int r = 0; r < 4; r++) {
            resource(r, 1 + any(6), any(3) > 0);
            tank(r, 2 + any(8));
        }
        for (int p = 0; p < firstProcesses; p++) {
            makeProcess();
        }
        while (same && calls < CALLS) {
            if (any(5) < 2) {
                change();
            } else {
                look();
            }
        }
    }

    private void due(String call, Object got, Object want) {
        calls++;
        if (same && calls <= CALLS && !got.equals(want)) {
            same = false;
            System.out.println("run " + run + ", call " + calls + ": " + call + " answered " + got + ", due is " + want);
        }
    }

    private void makeProcess() {
        int priority = any(2) > 0 ? any(3) : about(-4, 4);
        int rounds = about(1, 9);
        int handler = any(2) > 0 ? any(4) : about(0, 10);
        int p = model.process(priority, rounds, handler);
        due("process", kernel.process(priority, rounds, handler), p);
        processes = Math.max(processes, p + 1);
        int length = any(11);
        for (int i = 0; p >= 0 && i < length; i++) {
            instruct(p);
        }
        if (any(8) > 0) {
            activate(p, any(6));
        }
    }

    private void instruct(int p) {
        int op = any(40) > 0 ? ops[any(ops.length)] : about(0, 9);
        int a = op == 0 ? any(5) : op <= 5 ? any(2) * any(3) : any(Math.max(1, processes + 1));
        int b = 1 + any(1 + any(6));
        if (any(25) == 0) {
            a = about(0, op == 0 ? 1000000 : op <= 5 ? 3 : 11);
            b = about(1, op <= 3 ? 9 : 1000);
        }
        due("instruct " + op, kernel.instruct(p, op, a, b), model.instruct(p, op, a, b));
    }

    private void activate(int p, int delay) {
        due("activate", kernel.activate(p, delay), model.activate(p, delay));
    }

    private void resource(int r, int units, boolean preempts) {
        due("resource", kernel.resource(r, units, preempts), model.resource(r, units, preempts));
    }

    private void tank(int t, int capacity) {
        int level = about(0, Math.max(0, Math.min(capacity, 1000)));
        due("tank", kernel.tank(t, capacity, level), model.tank(t, capacity, level));
    }

    private int somebody() {
        return any(30) > 0 ? any(Math.max(1, processes)) : about(0, 11);
    }

    private void change() {
        int p = somebody();
        switch (any(16)) {
            case 0: resource(about(0, 3), about(0, 9), any(3) > 0); break;
            case 1: tank(about(0, 3), any(2) > 0 ? any(12) : about(0, 1000)); break;
            case 2: case 3: case 4: activate(p, any(3) > 0 ? any(6) : about(0, 1000000)); break;
            case 5: due("interrupt", kernel.interrupt(p), model.interrupt(p)); break;
            case 6: kill(p); break;
            case 7: makeProcess(); break;
            case 8: instruct(p); break;
            default: run();
        }
    }

    private void kill(int p) {
        if (any(3) == 0) {
            due("kill", kernel.kill(p), model.kill(p));
        }
    }

    private void run() {
        int n = any(4) > 0 ? any(5) : about(0, 100);
        long until = model.now() + any(8);
        if (any(60) == 0) {
            until = any(2) == 0 ? model.now() - 1 : 1000000000001L - any(2);
        }
        due("run", kernel.run(n, until), model.run(n, until));
    }

    private void look() {
        int p = somebody();
        int r = about(0, 3);
        int line = about(0, 4);
        int k = about(0, 63);
        switch (any(12)) {
            case 0: due("now", kernel.now(), model.now()); break;
            case 1: due("next", kernel.next(), model.next()); break;
            case 2: due("state", kernel.state(p), model.state(p)); break;
            case 3: due("place", kernel.place(p), model.place(p)); break;
            case 4: due("held", kernel.held(p, r), model.held(p, r)); break;
            case 5: due("free", kernel.free(r), model.free(r)); break;
            case 6: due("waiting", kernel.waiting(line), model.waiting(line)); break;
            case 7: due("area", kernel.area(r), model.area(r)); break;
            case 8: due("waited", kernel.waited(r), model.waited(r)); break;
            case 9: due("level", kernel.level(r), model.level(r)); break;
            case 10: due("stuck", kernel.stuck(), model.stuck()); break;
            default: due("traced", kernel.traced(k), model.traced(k));
        }
    }
}
