/** As many calls as an object is used for, calls beyond them, and objects beside one another. */
public final class CallsTest {
    private static final int MOST_CALLS = 512;
    private static final int FAR_BEYOND = 20000;
    private static final int[] ODD = {
        0, 1, 2, 3, 4, 5, 9, 10, 11, 12, 63, 64, 100, 101, 1000, 1001, 1000000, 1000001, -1, -4, -5,
        Integer.MAX_VALUE, Integer.MIN_VALUE,
    };

    private long seed = 1;

    public static void main(String[] args) {
        theLastCall();
        everyCallAnEvent();
        manyEvents();
        besideOneAnother();
        for (int i = 0; i < 20; i++) {
            new CallsTest().neverThrows(i);
        }
        Script.end();
    }

    private static void theLastCall() {
        BatonKernel kernel = new BatonKernel();
        kernel.process(0, 9, 0);
        kernel.instruct(0, 0, 3, 0);
        kernel.activate(0, 0);
        for (int call = 4; call < MOST_CALLS; call++) {
            Script.due("call " + call, kernel.now(), 0L);
        }
        Script.due("call " + MOST_CALLS, kernel.run(100, 1000), 10);
    }

    /** A process is broken off and has its turn again until there are 512 calls. */
    private static void everyCallAnEvent() {
        BatonKernel kernel = new BatonKernel();
        kernel.process(0, 9, 0);
        kernel.instruct(0, 1, 0, 0);
        kernel.instruct(0, 1, 0, 0);
        kernel.activate(0, 0);
        Script.due("the first turn", kernel.run(1, 0), 1);
        for (int turn = 0; turn < 253; turn++) {
            Script.due("interrupt " + turn, kernel.interrupt(0), true);
            Script.due("turn " + turn, kernel.run(1, turn), 1);
        }
        Script.due("the last call", kernel.place(0), 1);
    }

    /** The longest bodies of twelve processes, a hundred events to a call. */
    private static void manyEvents() {
        BatonKernel kernel = new BatonKernel();
        for (int p = 0; p < 12; p++) {
            kernel.process(0, 9, 0);
            for (int i = 0; i < 10; i++) {
                kernel.instruct(p, 0, 1, 0);
            }
            kernel.activate(p, 0);
        }
        int events = 0;
        for (int call = 0; call < 11; call++) {
            events += kernel.run(100, 1000000);
        }
        Script.due("the events of twelve processes", events, 12 * 91);
        Script.due("the latest event", kernel.traced(0), 11 + 160);
        // Event 1028, the first being 0: process 8 in turn 85, which began at place 5.
        Script.due("the one 63 before it", kernel.traced(63), 8 + 16 * 5);
    }

    private static void besideOneAnother() {
        BatonKernel one = new BatonKernel();
        BatonKernel other = new BatonKernel();
        one.resource(0, 9, true);
        one.tank(0, 5, 5);
        one.process(0, 1, 0);
        one.instruct(0, 2, 0, 3);
        one.activate(0, 4);
        one.run(1, 100);
        Script.due("the other's clock", other.now(), 0L);
        Script.due("the other's first entry", other.next(), -1L);
        Script.due("the other's units", other.free(0), 1);
        Script.due("the other's level", other.level(0), 0);
        Script.due("the other's processes", other.state(0), -1);
        Script.due("the other's trace", other.traced(0), -1);
        Script.due("the other's first process", other.process(0, 1, 0), 0);
        BatonKernel third = new BatonKernel();
        Script.due("a third's clock", third.now(), 0L);
        Script.due("a third's units", third.free(0), 1);
        Script.due("a third's processes", third.state(0), -1);
    }

    private int any(int bound) {
        seed = seed * 6364136223846793005L + 1442695040888963407L;
        return (int) ((seed >>> 33) % bound);
    }

    private int odd() {
        return any(3) > 0 ? any(4) : ODD[any(ODD.length)];
    }

    /** What later calls answer is free, but no call of any arguments may throw or fail to end. */
    private void neverThrows(int start) {
        seed = start;
        BatonKernel kernel = new BatonKernel();
        boolean ended = true;
        try {
            for (int call = 0; call < FAR_BEYOND; call++) {
                anyCall(kernel);
            }
        } catch (RuntimeException thrown) {
            ended = false;
            thrown.printStackTrace(System.out);
        }
        Script.due("no call throws, run " + start, ended, true);
    }

    private void anyCall(BatonKernel kernel) {
        switch (any(20)) {
            case 0: kernel.process(odd(), 1 + odd(), odd()); break;
            case 1: case 2: case 3: kernel.instruct(odd(), any(10), odd(), 1 + odd()); break;
            case 4: kernel.resource(odd(), odd(), any(2) == 0); break;
            case 5: kernel.tank(odd(), 5 + odd(), odd()); break;
            case 6: case 7: kernel.activate(odd(), odd()); break;
            case 8: kernel.interrupt(odd()); break;
            case 9: if (any(40) == 0) kernel.kill(odd()); break;
            case 10: case 11: case 12: kernel.run(odd(), kernel.now() + odd()); break;
            case 13: kernel.state(odd()); kernel.place(odd()); break;
            case 14: kernel.held(odd(), odd()); kernel.free(odd()); break;
            case 15: kernel.waiting(odd()); kernel.area(odd()); break;
            case 16: kernel.waited(odd()); kernel.level(odd()); break;
            case 17: kernel.stuck(); kernel.next(); break;
            default: kernel.traced(odd());
        }
    }
}
