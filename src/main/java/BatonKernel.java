/** A kernel that carries on up to twelve processes in simulated time, one at a time. */
public final class BatonKernel {
    private static final int PROCESSES = 12;
    private static final int RESOURCES = 4;
    private static final int TANKS = 4;
    private static final int LINE_OF_CONDITIONS = 4;

    private static final int NONE = -1;
    private static final int LEAST_PRIORITY = -4;
    private static final int GREATEST_PRIORITY = 4;
    private static final int MOST_ROUNDS = 9;
    private static final int LONGEST_BODY = 10;
    private static final int LAST_HANDLER = 10;
    private static final int MOST_UNITS = 9;
    private static final int MOST_LEVEL = 1000;
    private static final int LONGEST_DELAY = 1000000;
    private static final int MOST_EVENTS = 100;
    private static final long LATEST_TIME = 1000000000000L;
    private static final int TRACE_LENGTH = 64;
    private static final int TRACE_PLACE = 16;

    // Nine rounds of ten instructions, and the end of each round, are the longest turn.
    private static final int LONGEST_TURN = MOST_ROUNDS * (LONGEST_BODY + 1);

    private static final int NEW = 0;
    private static final int READY = 1;
    private static final int HOLDING = 2;
    private static final int PASSIVE = 3;
    private static final int QUEUED = 4;
    private static final int WAITING = 5;
    private static final int ENDED = 6;
    private static final int KILLED = 7;

    private static final int HOLD = 0;
    private static final int PASSIVATE = 1;
    private static final int SEIZE = 2;
    private static final int RELEASE = 3;
    private static final int PUT = 4;
    private static final int TAKE = 5;
    private static final int JOIN = 6;
    private static final int WAKE = 7;
    private static final int BREAK = 8;
    private static final int KILL = 9;

    // Every row has its full length from the start, so that no call but the constructor makes an object.
    private final Proc[] procs = new Proc[PROCESSES];
    private final Resource[] resources = new Resource[RESOURCES];
    private final Tank[] tanks = new Tank[TANKS];
    private final Line conditions = new Line();
    private final Trace trace = new Trace();
    private final int[] losers = new int[PROCESSES];
    private int made = 0;
    private long clock = 0;
    private long entries = 0;

    public BatonKernel() {
        for (int p = 0; p < PROCESSES; p++) {
            procs[p] = new Proc(p);
        }
        for (int r = 0; r < RESOURCES; r++) {
            resources[r] = new Resource();
        }
        for (int t = 0; t < TANKS; t++) {
            tanks[t] = new Tank();
        }
    }

    public int process(int priority, int rounds, int handler) {
        if (made >= PROCESSES
                || !isWithin(priority, LEAST_PRIORITY, GREATEST_PRIORITY)
                || !isWithin(rounds, 1, MOST_ROUNDS)
                || !isWithin(handler, 0, LAST_HANDLER)) {
            return NONE;
        }
        Proc x = procs[made];
        x.priority = priority;
        x.roundsLeft = rounds;
        x.handler = handler;
        made++;
        return x.number;
    }

    public boolean instruct(int p, int op, int a, int b) {
        if (!isProcess(p) || !isInstruction(op, a, b)) {
            return false;
        }
        Proc x = procs[p];
        if (x.state != NEW || x.length >= LONGEST_BODY) {
            return false;
        }
        x.append(op, a, b);
        return true;
    }

    public boolean resource(int r, int units, boolean preempts) {
        if (!isResource(r) || !isWithin(units, 0, MOST_UNITS) || resources[r].seized > units) {
            return false;
        }
        resources[r].capacity = units;
        resources[r].preempts = preempts;
        serve(r);
        return true;
    }

    public boolean tank(int t, int capacity, int level) {
        if (!isTank(t) || !isWithin(capacity, 0, MOST_LEVEL) || !isWithin(level, 0, capacity)) {
            return false;
        }
        tanks[t].capacity = capacity;
        tanks[t].level = level;
        return true;
    }

    public boolean activate(int p, int delay) {
        if (!isProcess(p) || !isWithin(delay, 0, LONGEST_DELAY)) {
            return false;
        }
        Proc x = procs[p];
        if (x.state != NEW && x.state != PASSIVE) {
            return false;
        }
        enter(x, READY, delay);
        return true;
    }

    public boolean interrupt(int p) {
        if (!isProcess(p) || !procs[p].isBreakable()) {
            return false;
        }
        Proc x = procs[p];
        int line = lineOf(x);
        leave(x);
        x.place = x.handler;
        enter(x, READY, 0);
        serve(line);
        return true;
    }

    public boolean kill(int p) {
        if (!isProcess(p) || procs[p].isOver()) {
            return false;
        }
        Proc x = procs[p];
        int line = lineOf(x);
        leave(x);
        x.state = KILLED;
        for (int i = x.place; i < x.length; i++) {
            if (x.ops[i] == RELEASE) {
                giveBack(x, x.as[i], x.bs[i]);
            }
        }
        serve(line);
        return true;
    }

    public int run(int n, long until) {
        if (!isWithin(n, 0, MOST_EVENTS) || until < clock || until > LATEST_TIME) {
            return NONE;
        }
        int done = 0;
        int first = firstEntry();
        while (done < n && first != NONE && procs[first].time <= until) {
            begin(procs[first]);
            doTurn(procs[first]);
            goOverConditions();
            done++;
            first = firstEntry();
        }
        if (done < n) {
            moveClock(until);
        }
        return done;
    }

    public long now() {
        return clock;
    }

    public long next() {
        int first = firstEntry();
        return first == NONE ? NONE : procs[first].time;
    }

    public int state(int p) {
        return isProcess(p) ? procs[p].state : NONE;
    }

    public int place(int p) {
        return isProcess(p) ? procs[p].place : NONE;
    }

    public int held(int p, int r) {
        return isProcess(p) && isResource(r) ? procs[p].units[r] : NONE;
    }

    public int free(int r) {
        return isResource(r) ? resources[r].unseized() : NONE;
    }

    public int waiting(int r) {
        if (r == LINE_OF_CONDITIONS) {
            return conditions.size;
        }
        return isResource(r) ? resources[r].line.size : NONE;
    }

    public long area(int r) {
        return isResource(r) ? resources[r].area : NONE;
    }

    public long waited(int r) {
        return isResource(r) ? resources[r].waited : NONE;
    }

    public int level(int t) {
        return isTank(t) ? tanks[t].level : NONE;
    }

    public boolean stuck() {
        boolean someoneWaits = conditions.size > 0;
        for (int r = 0; r < RESOURCES; r++) {
            someoneWaits = someoneWaits || resources[r].line.size > 0;
        }
        return someoneWaits && firstEntry() == NONE;
    }

    public int traced(int k) {
        return trace.before(k);
    }

    private static boolean isWithin(int value, int least, int greatest) {
        return value >= least && value <= greatest;
    }

    private static boolean isResource(int r) {
        return isWithin(r, 0, RESOURCES - 1);
    }

    private static boolean isTank(int t) {
        return isWithin(t, 0, TANKS - 1);
    }

    private boolean isProcess(int p) {
        return p >= 0 && p < made;
    }

    private static boolean isInstruction(int op, int a, int b) {
        switch (op) {
            case HOLD:
                return isWithin(a, 0, LONGEST_DELAY);
            case PASSIVATE:
                return true;
            case SEIZE:
            case RELEASE:
                return isResource(a) && isWithin(b, 1, MOST_UNITS);
            case PUT:
            case TAKE:
                return isTank(a) && isWithin(b, 1, MOST_LEVEL);
            case JOIN:
            case WAKE:
            case BREAK:
            case KILL:
                return isWithin(a, 0, PROCESSES - 1);
            default:
                return false;
        }
    }

    private void moveClock(long time) {
        for (int r = 0; r < RESOURCES; r++) {
            resources[r].area += resources[r].seized * (time - clock);
        }
        clock = time;
    }

    private void enter(Proc x, int state, int delay) {
        x.state = state;
        x.listed = true;
        x.time = clock + delay;
        x.entry = entries;
        entries++;
    }

    private int firstEntry() {
        int first = NONE;
        for (int p = 0; p < made; p++) {
            if (procs[p].listed && (first == NONE || procs[p].isBefore(procs[first]))) {
                first = p;
            }
        }
        return first;
    }

    private void begin(Proc x) {
        x.listed = false;
        moveClock(x.time);
        x.state = READY;
        trace.add(x.number + TRACE_PLACE * x.place);
    }

    private void doTurn(Proc x) {
        boolean goesOn = true;
        for (int steps = 0; goesOn && steps < LONGEST_TURN; steps++) {
            goesOn = x.place < x.length ? perform(x) : x.beginRound();
        }
    }

    /** Does the instruction at the place of x and answers whether the turn goes on. */
    private boolean perform(Proc x) {
        x.doing = x.place;
        x.place++;
        int a = x.firstOperand();
        switch (x.ops[x.doing]) {
            case HOLD:
                enter(x, HOLDING, a);
                return false;
            case PASSIVATE:
                x.state = PASSIVE;
                return false;
            case SEIZE:
                return seizeFree(x) || seizeByForce(x) || standInLine(x);
            case RELEASE:
                giveBack(x, a, x.secondOperand());
                return true;
            case PUT:
            case TAKE:
            case JOIN:
                return meetCondition(x) || waitForCondition(x);
            case WAKE:
                activate(a, 0);
                return true;
            case BREAK:
                interrupt(a);
                return true;
            case KILL:
                kill(a);
                return x.state != KILLED;
            default:
                return true;
        }
    }

    /** How many of the line of resource r stand before one of this priority. */
    private int countBefore(int r, int priority) {
        Line line = resources[r].line;
        int before = 0;
        while (before < line.size && procs[line.members[before]].priority <= priority) {
            before++;
        }
        return before;
    }

    private boolean seizeFree(Proc x) {
        int r = x.firstOperand();
        int wanted = x.secondOperand();
        if (countBefore(r, x.priority) > 0 || wanted > resources[r].unseized()) {
            return false;
        }
        give(x, r, wanted);
        return true;
    }

    /** Comes behind seizeFree: where nobody is before x, fewer units than it wants are free. */
    private boolean seizeByForce(Proc x) {
        int r = x.firstOperand();
        int wanted = x.secondOperand();
        if (countBefore(r, x.priority) > 0 || !resources[r].preempts || withinReach(x, r) < wanted) {
            return false;
        }
        int count = takeFromLosers(x, r, wanted);
        give(x, r, wanted);
        for (int i = 0; i < count; i++) {
            interrupt(losers[i]);
        }
        serve(r);
        return true;
    }

    private boolean standInLine(Proc x) {
        int r = x.firstOperand();
        resources[r].line.insert(countBefore(r, x.priority), x.number);
        x.state = QUEUED;
        x.since = clock;
        return false;
    }

    /** The free units of resource r and those that x could take by force. */
    private int withinReach(Proc x, int r) {
        int sum = resources[r].unseized();
        for (int p = 0; p < made; p++) {
            if (procs[p].priority > x.priority) {
                sum += procs[p].units[r];
            }
        }
        return sum;
    }

    /** Frees the units that x wants; who lost some stands in losers, in order. Answers how many these are. */
    private int takeFromLosers(Proc x, int r, int wanted) {
        int count = 0;
        while (count < PROCESSES && resources[r].unseized() < wanted) {
            int loser = nextLoser(x, r);
            if (loser == NONE) {
                break;
            }
            takeBack(procs[loser], r, procs[loser].units[r]);
            losers[count] = loser;
            count++;
        }
        return count;
    }

    private int nextLoser(Proc x, int r) {
        int loser = NONE;
        int greatest = x.priority;
        for (int p = made - 1; p >= 0; p--) {
            if (procs[p].units[r] > 0 && procs[p].priority > greatest) {
                loser = p;
                greatest = procs[p].priority;
            }
        }
        return loser;
    }

    private void give(Proc x, int r, int units) {
        x.units[r] += units;
        resources[r].seized += units;
    }

    private void takeBack(Proc x, int r, int units) {
        x.units[r] -= units;
        resources[r].seized -= units;
    }

    private void giveBack(Proc x, int r, int units) {
        takeBack(x, r, Math.min(units, x.units[r]));
        serve(r);
    }

    /** Serves the line of resource r; r may be NONE, for one who was in no such line. */
    private void serve(int r) {
        if (r == NONE) {
            return;
        }
        Resource served = resources[r];
        for (int left = served.line.size; left > 0; left--) {
            Proc x = procs[served.line.members[0]];
            if (x.secondOperand() > served.unseized()) {
                return;
            }
            give(x, r, x.secondOperand());
            served.waited += clock - x.since;
            served.line.drop(x.number);
            enter(x, READY, 0);
        }
    }

    /** If the condition of what x does holds, carries that out; answers whether it held. */
    private boolean meetCondition(Proc x) {
        int a = x.firstOperand();
        switch (x.ops[x.doing]) {
            case PUT:
                return tanks[a].put(x.secondOperand());
            case TAKE:
                return tanks[a].take(x.secondOperand());
            default:
                return !isProcess(a) || procs[a].isOver();
        }
    }

    private boolean waitForCondition(Proc x) {
        conditions.insert(conditions.size, x.number);
        x.state = WAITING;
        return false;
    }

    private void goOverConditions() {
        int at = 0;
        for (int left = conditions.size; left > 0; left--) {
            Proc x = procs[conditions.members[at]];
            if (meetCondition(x)) {
                conditions.drop(x.number);
                enter(x, READY, 0);
            } else {
                at++;
            }
        }
    }

    /** The resource in whose line x is, or NONE. */
    private int lineOf(Proc x) {
        return x.state == QUEUED ? x.firstOperand() : NONE;
    }

    private void leave(Proc x) {
        x.listed = false;
        if (x.state == QUEUED) {
            resources[x.firstOperand()].line.drop(x.number);
        }
        if (x.state == WAITING) {
            conditions.drop(x.number);
        }
    }

    private static final class Proc {
        final int number;
        final int[] ops = new int[LONGEST_BODY];
        final int[] as = new int[LONGEST_BODY];
        final int[] bs = new int[LONGEST_BODY];
        final int[] units = new int[RESOURCES];
        int length = 0;
        int priority = 0;
        int roundsLeft = 1;
        int handler = 0;
        int state = NEW;
        int place = 0;
        // The place of the instruction that it does, or in which it is queued or waits.
        int doing = 0;
        boolean listed = false;
        long time = 0;
        long entry = 0;
        long since = 0;

        Proc(int number) {
            this.number = number;
        }

        void append(int op, int a, int b) {
            ops[length] = op;
            as[length] = a;
            bs[length] = b;
            length++;
        }

        int firstOperand() {
            return as[doing];
        }

        int secondOperand() {
            return bs[doing];
        }

        boolean isOver() {
            return state == ENDED || state == KILLED;
        }

        boolean isBreakable() {
            return state == HOLDING || state == PASSIVE || state == QUEUED || state == WAITING;
        }

        boolean isBefore(Proc other) {
            if (time != other.time) {
                return time < other.time;
            }
            if (priority != other.priority) {
                return priority < other.priority;
            }
            return entry < other.entry;
        }

        /** A round is over: begins the next one, or ends; answers whether the turn goes on. */
        boolean beginRound() {
            roundsLeft--;
            if (roundsLeft <= 0) {
                state = ENDED;
                return false;
            }
            place = 0;
            return true;
        }
    }

    private static final class Line {
        final int[] members = new int[PROCESSES];
        int size = 0;

        void insert(int at, int member) {
            if (size >= PROCESSES) {
                return;
            }
            for (int i = size; i > at; i--) {
                members[i] = members[i - 1];
            }
            members[at] = member;
            size++;
        }

        void drop(int member) {
            int kept = 0;
            for (int i = 0; i < size; i++) {
                if (members[i] != member) {
                    members[kept] = members[i];
                    kept++;
                }
            }
            size = kept;
        }
    }

    private static final class Resource {
        final Line line = new Line();
        int capacity = 1;
        int seized = 0;
        boolean preempts = false;
        long area = 0;
        long waited = 0;

        int unseized() {
            return capacity - seized;
        }
    }

    private static final class Tank {
        int capacity = MOST_LEVEL;
        int level = 0;

        boolean put(int amount) {
            if (level + amount > capacity) {
                return false;
            }
            level += amount;
            return true;
        }

        boolean take(int amount) {
            if (level < amount) {
                return false;
            }
            level -= amount;
            return true;
        }
    }

    private static final class Trace {
        final int[] rows = new int[TRACE_LENGTH];
        int latest = 0;
        int size = 0;

        void add(int row) {
            latest = (latest + 1) % TRACE_LENGTH;
            rows[latest] = row;
            size = Math.min(size + 1, TRACE_LENGTH);
        }

        int before(int k) {
            if (k < 0 || k >= size) {
                return NONE;
            }
            return rows[(latest - k + TRACE_LENGTH) % TRACE_LENGTH];
        }
    }
}
