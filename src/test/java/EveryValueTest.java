/**
 * What is taken has its effect: rounds, handlers, priorities, units, levels, delays and numbers of events,
 * each tried with every value that the document allows, or with those about its edges.
 */
public final class EveryValueTest {
    private static final int HOLD = 0;
    private static final int PASSIVATE = 1;
    private static final int SEIZE = 2;
    private static final int RELEASE = 3;
    private static final int PUT = 4;
    private static final int TAKE = 5;
    private static final int READY = 1;
    private static final int HOLDING = 2;
    private static final int PASSIVE = 3;
    private static final int QUEUED = 4;
    private static final int WAITING = 5;
    private static final int ENDED = 6;
    private static final int[] AMOUNTS = {0, 1, 2, 3, 499, 500, 501, 998, 999, 1000};

    public static void main(String[] args) {
        rounds();
        handlers();
        priorities();
        unitsThatAreFree();
        unitsGivenBack();
        unitsThatAreSeized();
        unitsByForce();
        levels();
        delays();
        numbersOfEvents();
        traces();
        Script.end();
    }

    /** Makes a process, gives it its body (op, a, b, op, a, b, ..) and answers its number. */
    private static int make(BatonKernel kernel, int priority, int rounds, int handler, int... body) {
        int p = kernel.process(priority, rounds, handler);
        for (int i = 0; i < body.length; i += 3) {
            Script.due("instruct", kernel.instruct(p, body[i], body[i + 1], body[i + 2]), true);
        }
        return p;
    }

    /** Activates the process and makes one event, which is its turn if no entry is before it. */
    private static void start(BatonKernel kernel, int p) {
        Script.due("activate", kernel.activate(p, 0), true);
        Script.due("run", kernel.run(1, kernel.now()), 1);
    }

    private static void rounds() {
        for (int rounds = 1; rounds <= 9; rounds++) {
            BatonKernel kernel = new BatonKernel();
            int p = make(kernel, 0, rounds, 0, HOLD, 1, 0);
            kernel.activate(p, 0);
            Script.due("events before the end of " + rounds, kernel.run(100, rounds - 1), rounds);
            Script.due("before the end of " + rounds, kernel.state(p), HOLDING);
            Script.due("events at the end of " + rounds, kernel.run(100, 100), 1);
            Script.due("at the end of " + rounds, kernel.state(p), ENDED);
        }
        for (int rounds = 1; rounds <= 9; rounds++) {
            for (int length = 0; length <= 10; length++) {
                oneLongTurn(rounds, length);
            }
        }
    }

    private static void oneLongTurn(int rounds, int length) {
        BatonKernel kernel = new BatonKernel();
        int p = kernel.process(0, rounds, 0);
        for (int i = 0; i < length; i++) {
            kernel.instruct(p, PUT, 0, 1);
        }
        start(kernel, p);
        String name = rounds + " rounds of " + length;
        Script.due(name + ": done", kernel.level(0), rounds * length);
        Script.due(name + ": state", kernel.state(p), ENDED);
        Script.due(name + ": place", kernel.place(p), length);
        Script.due(name + ": the list", kernel.next(), -1L);
    }

    private static void handlers() {
        for (int handler = 0; handler <= 10; handler++) {
            for (int length = 1; length <= 10; length++) {
                handler(handler, length);
            }
        }
    }

    private static void handler(int handler, int length) {
        BatonKernel kernel = new BatonKernel();
        int p = make(kernel, 0, 1, handler, PASSIVATE, 0, 0);
        for (int i = 1; i < length; i++) {
            kernel.instruct(p, PUT, 0, 1);
        }
        start(kernel, p);
        String name = "handler " + handler + " in a body of " + length;
        Script.due(name, kernel.interrupt(p), true);
        Script.due(name + ": place", kernel.place(p), handler);
        Script.due(name + ": run", kernel.run(1, 0), 1);
        Script.due(name + ": traced", kernel.traced(0), 16 * handler);
        Script.due(name + ": done", kernel.level(0), handler == 0 ? 0 : Math.max(0, length - handler));
        Script.due(name + ": state", kernel.state(p), handler == 0 ? PASSIVE : ENDED);
        Script.due(name + ": place at last", kernel.place(p), handler == 0 ? 1 : Math.max(handler, length));
    }

    private static void priorities() {
        for (int first = -4; first <= 4; first++) {
            for (int second = -4; second <= 4; second++) {
                String name = "priorities " + first + " and " + second;
                boolean secondGoesFirst = second < first;
                inTheEventList(name, first, second, secondGoesFirst);
                inTheLine(name, first, second, secondGoesFirst);
                byTheLine(name, first, second, secondGoesFirst);
                byForce(name, first, second, secondGoesFirst);
                inTheLineOfConditions(name, first, second);
            }
        }
    }

    private static void inTheEventList(String name, int first, int second, boolean secondGoesFirst) {
        BatonKernel kernel = new BatonKernel();
        make(kernel, first, 1, 0);
        make(kernel, second, 1, 0);
        kernel.activate(0, 7);
        kernel.activate(1, 7);
        kernel.run(1, 7);
        Script.due(name + ": the first entry", kernel.traced(0), secondGoesFirst ? 1 : 0);
    }

    private static void inTheLine(String name, int first, int second, boolean secondGoesFirst) {
        BatonKernel kernel = new BatonKernel();
        kernel.resource(0, 0, false);
        start(kernel, make(kernel, first, 1, 0, SEIZE, 0, 1));
        start(kernel, make(kernel, second, 1, 0, SEIZE, 0, 1));
        Script.due(name + ": both in the line", kernel.waiting(0), 2);
        kernel.resource(0, 1, false);
        Script.due(name + ": the first of the line", kernel.held(secondGoesFirst ? 1 : 0, 0), 1);
    }

    private static void byTheLine(String name, int first, int second, boolean secondGoesFirst) {
        BatonKernel kernel = new BatonKernel();
        start(kernel, make(kernel, first, 1, 0, SEIZE, 0, 2));
        start(kernel, make(kernel, second, 1, 0, SEIZE, 0, 1));
        Script.due(name + ": goes by the line", kernel.held(1, 0), secondGoesFirst ? 1 : 0);
        Script.due(name + ": state", kernel.state(1), secondGoesFirst ? ENDED : QUEUED);
    }

    private static void byForce(String name, int first, int second, boolean secondGoesFirst) {
        BatonKernel kernel = new BatonKernel();
        kernel.resource(0, 1, true);
        start(kernel, make(kernel, first, 1, 5, SEIZE, 0, 1, PASSIVATE, 0, 0));
        start(kernel, make(kernel, second, 1, 0, SEIZE, 0, 1));
        Script.due(name + ": takes by force", kernel.held(1, 0), secondGoesFirst ? 1 : 0);
        Script.due(name + ": loses", kernel.held(0, 0), secondGoesFirst ? 0 : 1);
        Script.due(name + ": is interrupted", kernel.state(0), secondGoesFirst ? READY : PASSIVE);
        Script.due(name + ": its place", kernel.place(0), secondGoesFirst ? 5 : 2);
    }

    private static void inTheLineOfConditions(String name, int first, int second) {
        BatonKernel kernel = new BatonKernel();
        start(kernel, make(kernel, first, 1, 0, TAKE, 0, 1));
        start(kernel, make(kernel, second, 1, 0, TAKE, 0, 1));
        start(kernel, make(kernel, 0, 1, 0, PUT, 0, 1));
        Script.due(name + ": the first of those who wait goes on", kernel.state(0), READY);
        Script.due(name + ": the second waits", kernel.state(1), WAITING);
    }

    private static void unitsThatAreFree() {
        for (int r = 0; r < 4; r++) {
            for (int capacity = 0; capacity <= 9; capacity++) {
                for (int wanted = 1; wanted <= 9; wanted++) {
                    seize(r, capacity, wanted);
                }
            }
        }
    }

    private static void seize(int r, int capacity, int wanted) {
        BatonKernel kernel = new BatonKernel();
        kernel.resource(r, capacity, false);
        Script.due("free of " + capacity, kernel.free(r), capacity);
        start(kernel, make(kernel, 0, 1, 0, SEIZE, r, wanted, PASSIVATE, 0, 0));
        boolean gets = wanted <= capacity;
        String name = "SEIZE " + wanted + " of " + capacity;
        Script.due(name + ": held", kernel.held(0, r), gets ? wanted : 0);
        Script.due(name + ": free", kernel.free(r), gets ? capacity - wanted : capacity);
        Script.due(name + ": state", kernel.state(0), gets ? PASSIVE : QUEUED);
        Script.due(name + ": the line", kernel.waiting(r), gets ? 0 : 1);
        Script.due(name + ": stuck", kernel.stuck(), !gets);
        if (!gets) {
            Script.due(name + ", one less", kernel.resource(r, wanted - 1, false), true);
            Script.due(name + ", one less: state", kernel.state(0), QUEUED);
            Script.due(name + ", enough", kernel.resource(r, wanted, false), true);
            Script.due(name + ", enough: state", kernel.state(0), READY);
            Script.due(name + ", enough: free", kernel.free(r), 0);
        }
    }

    private static void unitsGivenBack() {
        for (int had = 0; had <= 9; had++) {
            for (int given = 1; given <= 9; given++) {
                BatonKernel kernel = new BatonKernel();
                kernel.resource(2, 9, false);
                int p = kernel.process(0, 1, 0);
                if (had > 0) {
                    kernel.instruct(p, SEIZE, 2, had);
                }
                kernel.instruct(p, RELEASE, 2, given);
                start(kernel, p);
                String name = "RELEASE " + given + " of " + had;
                int kept = Math.max(0, had - given);
                Script.due(name + ": held", kernel.held(p, 2), kept);
                Script.due(name + ": free", kernel.free(2), 9 - kept);
                Script.due(name + ": state", kernel.state(p), ENDED);
            }
        }
    }

    private static void unitsThatAreSeized() {
        for (int seized = 1; seized <= 9; seized++) {
            for (int units = 0; units <= 9; units++) {
                BatonKernel kernel = new BatonKernel();
                kernel.resource(1, 9, false);
                start(kernel, make(kernel, 0, 1, 0, SEIZE, 1, seized));
                boolean taken = units >= seized;
                String name = "resource with " + units + " where " + seized + " are seized";
                Script.due(name, kernel.resource(1, units, true), taken);
                Script.due(name + ": free", kernel.free(1), taken ? units - seized : 9 - seized);
                Script.due(name + ": held", kernel.held(0, 1), seized);
            }
        }
    }

    private static void unitsByForce() {
        for (int free = 0; free <= 9; free++) {
            for (int loses = 0; loses <= 9 - free; loses++) {
                for (int wanted = 1; wanted <= 9; wanted++) {
                    byForce(free, loses, wanted);
                }
            }
        }
    }

    /** Of nine units some are free, some are a loser's, and the others one has whose number is not greater. */
    private static void byForce(int free, int loses, int wanted) {
        BatonKernel kernel = new BatonKernel();
        kernel.resource(3, 9, true);
        int loser = kernel.process(1, 1, 5);
        if (loses > 0) {
            kernel.instruct(loser, SEIZE, 3, loses);
        }
        kernel.instruct(loser, PASSIVATE, 0, 0);
        int equal = kernel.process(0, 1, 5);
        if (free + loses < 9) {
            kernel.instruct(equal, SEIZE, 3, 9 - free - loses);
        }
        kernel.instruct(equal, PASSIVATE, 0, 0);
        start(kernel, loser);
        start(kernel, equal);
        int taker = make(kernel, 0, 1, 0, SEIZE, 3, wanted, PASSIVATE, 0, 0);
        start(kernel, taker);
        String name = wanted + " wanted, " + free + " free, " + loses + " to be lost";
        boolean gets = wanted <= free + loses;
        boolean forces = gets && wanted > free;
        Script.due(name + ": held", kernel.held(taker, 3), gets ? wanted : 0);
        Script.due(name + ": state", kernel.state(taker), gets ? PASSIVE : QUEUED);
        Script.due(name + ": what is lost", kernel.held(loser, 3), forces ? 0 : loses);
        Script.due(name + ": who loses", kernel.state(loser), forces ? READY : PASSIVE);
        Script.due(name + ": who does not", kernel.held(equal, 3), 9 - free - loses);
        Script.due(name + ": nor is interrupted", kernel.state(equal), PASSIVE);
        Script.due(name + ": free", kernel.free(3), !gets ? free : forces ? free + loses - wanted : free - wanted);
    }

    private static void levels() {
        for (int capacity : AMOUNTS) {
            for (int level : AMOUNTS) {
                for (int amount : AMOUNTS) {
                    if (level <= capacity && amount > 0) {
                        move(PUT, capacity, level, amount, level + amount <= capacity, level + amount);
                        move(TAKE, capacity, level, amount, level >= amount, level - amount);
                    }
                }
            }
        }
    }

    private static void move(int op, int capacity, int level, int amount, boolean holds, int then) {
        BatonKernel kernel = new BatonKernel();
        String name = "op " + op + " with " + amount + ", level " + level + " of " + capacity;
        Script.due(name + ": tank", kernel.tank(3, capacity, level), true);
        start(kernel, make(kernel, 0, 1, 0, op, 3, amount));
        Script.due(name + ": state", kernel.state(0), holds ? ENDED : WAITING);
        Script.due(name + ": level", kernel.level(3), holds ? then : level);
        Script.due(name + ": the line", kernel.waiting(4), holds ? 0 : 1);
        Script.due(name + ": stuck", kernel.stuck(), !holds);
        waitedFor(name, kernel, op, amount, holds);
    }

    /** The tank is changed so that just one too few, and then just enough, is there for the one who waits. */
    private static void waitedFor(String name, BatonKernel kernel, int op, int amount, boolean holds) {
        if (holds) {
            return;
        }
        int tooFew = amount - 1;
        Script.due(name + ", one too few", kernel.tank(3, tooFew, op == PUT ? 0 : tooFew), true);
        start(kernel, make(kernel, 0, 1, 0));
        Script.due(name + ", one too few: state", kernel.state(0), WAITING);
        Script.due(name + ", enough", kernel.tank(3, amount, op == PUT ? 0 : amount), true);
        start(kernel, make(kernel, 0, 1, 0));
        Script.due(name + ", enough: state", kernel.state(0), READY);
        Script.due(name + ", enough: level", kernel.level(3), op == PUT ? amount : 0);
    }

    private static void delays() {
        for (long clock : new long[] {0, 1, 2147483647L, 2147483648L, 4294967296L, 1000000000000L}) {
            for (int delay : new int[] {0, 1, 2, 32768, 65536, 999999, 1000000}) {
                BatonKernel kernel = new BatonKernel();
                kernel.run(1, clock);
                make(kernel, 0, 1, 0, HOLD, delay, 0);
                make(kernel, 0, 1, 0);
                String name = "delay " + delay + " at " + clock;
                start(kernel, 0);
                Script.due(name + ": HOLD", kernel.next(), clock + delay);
                Script.due(name + ": state", kernel.state(0), HOLDING);
                kernel.kill(0);
                Script.due(name + ": activate", kernel.activate(1, delay), true);
                Script.due(name + ": next", kernel.next(), clock + delay);
                due(name, kernel, clock, delay);
            }
        }
    }

    private static void due(String name, BatonKernel kernel, long clock, int delay) {
        if (clock + delay > 1000000000000L) {
            Script.due(name + ": beyond the latest time", kernel.run(1, 1000000000000L), 0);
            return;
        }
        if (delay > 0) {
            Script.due(name + ": one before", kernel.run(1, clock + delay - 1), 0);
            Script.due(name + ": now", kernel.now(), clock + delay - 1);
        }
        Script.due(name + ": just then", kernel.run(1, clock + delay), 1);
        Script.due(name + ": now", kernel.now(), clock + delay);
    }

    private static void numbersOfEvents() {
        for (int n = 0; n <= 100; n++) {
            BatonKernel kernel = twoThatHold();
            Script.due("run " + n, kernel.run(n, 1000), n);
            Script.due("now after " + n, kernel.now(), n == 0 ? 0L : (n - 1) / 2);
            Script.due("next after " + n, kernel.next(), (long) n / 2);
        }
    }

    /** Two processes, each with 91 events, at times 0 to 90. */
    private static BatonKernel twoThatHold() {
        BatonKernel kernel = new BatonKernel();
        for (int p = 0; p < 2; p++) {
            kernel.process(p, 9, 0);
            for (int i = 0; i < 10; i++) {
                kernel.instruct(p, HOLD, 1, 0);
            }
            kernel.activate(p, 0);
        }
        return kernel;
    }

    private static void traces() {
        for (int events = 0; events <= 182; events++) {
            BatonKernel kernel = twoThatHold();
            kernel.run(events / 2, 1000);
            kernel.run(events - events / 2, 1000);
            for (int k = -2; k <= 66; k++) {
                boolean told = k >= 0 && k <= 63 && k < events;
                Script.due("traced " + k + " after " + events, kernel.traced(k), told ? row(events - 1 - k) : -1);
            }
        }
    }

    /** What is traced of an event of twoThatHold, the first being 0. */
    private static int row(int event) {
        int turn = event / 2;
        int place = turn == 0 ? 0 : (turn - 1) % 10 + 1;
        return event % 2 + 16 * place;
    }
}
