import java.util.ArrayList;
import java.util.Comparator;
import java.util.HashMap;
import java.util.List;
import java.util.Map;

/**
 * The document's kernel once more, written from its words with lists and maps and without a thought of
 * room or speed, for ModelTest to compare with. The text of each call is the key by which it is asked.
 */
final class PlainModel {
    private record Instruction(int op, int a, int b) {}

    private record Entry(Process process, long time, int insertion) {}

    private record InLine(Process process, int units, long since) {}

    private record Waiter(Process process, Instruction instruction) {}

    /** So many units of a resource were seized from this time on. */
    private record Span(long from, int seized) {}

    private static final class Process {
        int number;
        int priority;
        int rounds;
        int handler;
        int place;
        String state = "NEW";
        final List<Instruction> body = new ArrayList<>();
    }

    private static final class Resource {
        int capacity = 1;
        boolean preempts;
        long waited;
        final Map<Process, Integer> seized = new HashMap<>();
        final List<InLine> line = new ArrayList<>();
        final List<Span> history = new ArrayList<>();

        int free() {
            return capacity - seized.values().stream().mapToInt(Integer::intValue).sum();
        }

        int of(Process p) {
            return seized.getOrDefault(p, 0);
        }
    }

    private static final List<String> STATES =
            List.of("NEW", "READY", "HOLDING", "PASSIVE", "QUEUED", "WAITING", "ENDED", "KILLED");
    private static final Comparator<Entry> FIRST = Comparator.comparingLong(Entry::time)
            .thenComparingInt(entry -> entry.process().priority)
            .thenComparingInt(Entry::insertion);

    private final List<Process> processes = new ArrayList<>();
    private final List<Resource> resources = new ArrayList<>();
    private final int[] capacity = {1000, 1000, 1000, 1000};
    private final int[] level = new int[4];
    private final List<Entry> events = new ArrayList<>();
    private final List<Waiter> conditions = new ArrayList<>();
    private final List<Integer> trace = new ArrayList<>();
    private long clock;
    private int insertions;
    /** How often something rare came about, so that the test can tell that its runs reach it. */
    final Map<String, Integer> seen = new HashMap<>();

    PlainModel() {
        for (int r = 0; r < 4; r++) {
            resources.add(new Resource());
        }
    }

    private void note(String what) {
        seen.merge(what, 1, Integer::sum);
    }

    private Process find(int p) {
        return p >= 0 && p < processes.size() ? processes.get(p) : null;
    }

    int process(int priority, int rounds, int handler) {
        if (processes.size() == 12 || Math.abs((long) priority) > 4 || rounds < 1 || rounds > 9
                || handler < 0 || handler > 10) {
            return -1;
        }
        Process p = new Process();
        p.number = processes.size();
        p.priority = priority;
        p.rounds = rounds;
        p.handler = handler;
        processes.add(p);
        return p.number;
    }

    boolean instruct(int p, int op, int a, int b) {
        Process x = find(p);
        if (x == null || !x.state.equals("NEW") || x.body.size() == 10) {
            return false;
        }
        boolean fine = switch (op) {
            case 0 -> a >= 0 && a <= 1000000;
            case 1 -> true;
            case 2, 3 -> a >= 0 && a <= 3 && b >= 1 && b <= 9;
            case 4, 5 -> a >= 0 && a <= 3 && b >= 1 && b <= 1000;
            case 6, 7, 8, 9 -> a >= 0 && a <= 11;
            default -> false;
        };
        return fine && x.body.add(new Instruction(op, a, b));
    }

    boolean resource(int r, int units, boolean preempts) {
        if (r < 0 || r > 3 || units < 0 || units > 9) {
            return false;
        }
        Resource x = resources.get(r);
        if (x.capacity - x.free() > units) {
            return false;
        }
        x.capacity = units;
        x.preempts = preempts;
        serve(x);
        return true;
    }

    boolean tank(int t, int newCapacity, int newLevel) {
        if (t < 0 || t > 3 || !(0 <= newLevel && newLevel <= newCapacity && newCapacity <= 1000)) {
            return false;
        }
        capacity[t] = newCapacity;
        level[t] = newLevel;
        return true;
    }

    boolean activate(int p, int delay) {
        Process x = find(p);
        if (x == null || delay < 0 || delay > 1000000 || !List.of("NEW", "PASSIVE").contains(x.state)) {
            return false;
        }
        enter(x, "READY", clock + delay);
        return true;
    }

    boolean interrupt(int p) {
        Process x = find(p);
        if (x == null || !List.of("HOLDING", "PASSIVE", "QUEUED", "WAITING").contains(x.state)) {
            return false;
        }
        note("interrupt " + x.state);
        Resource left = leave(x);
        x.place = x.handler;
        enter(x, "READY", clock);
        if (left != null) {
            serve(left);
        }
        return true;
    }

    boolean kill(int p) {
        Process x = find(p);
        if (x == null || List.of("ENDED", "KILLED").contains(x.state)) {
            return false;
        }
        note("kill " + x.state);
        Resource left = leave(x);
        x.state = "KILLED";
        for (Instruction i : x.body.subList(Math.min(x.place, x.body.size()), x.body.size())) {
            if (i.op() == 3) {
                release(x, i);
            }
        }
        if (left != null) {
            serve(left);
        }
        return true;
    }

    int run(int n, long until) {
        if (n < 0 || n > 100 || until < clock || until > 1000000000000L) {
            return -1;
        }
        for (int made = 0; made < n; made++) {
            Entry first = events.stream().min(FIRST).orElse(null);
            if (first == null || first.time() > until) {
                clock = until;
                return made;
            }
            event(first);
        }
        return n;
    }

    long now() {
        return clock;
    }

    long next() {
        return events.stream().min(FIRST).map(Entry::time).orElse(-1L);
    }

    int state(int p) {
        return find(p) == null ? -1 : STATES.indexOf(find(p).state);
    }

    int place(int p) {
        return find(p) == null ? -1 : find(p).place;
    }

    int held(int p, int r) {
        return find(p) == null || r < 0 || r > 3 ? -1 : resources.get(r).of(find(p));
    }

    int free(int r) {
        return r < 0 || r > 3 ? -1 : resources.get(r).free();
    }

    int waiting(int r) {
        if (r < 0 || r > 4) {
            return -1;
        }
        return r == 4 ? conditions.size() : resources.get(r).line.size();
    }

    long area(int r) {
        if (r < 0 || r > 3) {
            return -1;
        }
        long sum = 0;
        List<Span> history = resources.get(r).history;
        for (int i = 0; i < history.size(); i++) {
            long to = i + 1 < history.size() ? history.get(i + 1).from() : clock;
            sum += history.get(i).seized() * (to - history.get(i).from());
        }
        return sum;
    }

    long waited(int r) {
        return r < 0 || r > 3 ? -1 : resources.get(r).waited;
    }

    int level(int t) {
        return t < 0 || t > 3 ? -1 : level[t];
    }

    boolean stuck() {
        return events.isEmpty()
                && processes.stream().anyMatch(x -> x.state.equals("QUEUED") || x.state.equals("WAITING"));
    }

    int traced(int k) {
        return k < 0 || k > 63 || k >= trace.size() ? -1 : trace.get(trace.size() - 1 - k);
    }

    private void enter(Process x, String state, long time) {
        x.state = state;
        events.add(new Entry(x, time, insertions++));
    }

    /** Out of the event list and every line; answers the resource whose line it left, or null. */
    private Resource leave(Process x) {
        events.removeIf(entry -> entry.process() == x);
        conditions.removeIf(waiter -> waiter.process() == x);
        Resource left = null;
        for (Resource r : resources) {
            if (r.line.removeIf(one -> one.process() == x)) {
                left = r;
            }
        }
        return left;
    }

    private void event(Entry first) {
        events.remove(first);
        clock = first.time();
        first.process().state = "READY";
        trace.add(first.process().number + 16 * first.process().place);
        turn(first.process());
        for (Waiter waiter : new ArrayList<>(conditions)) {
            if (holds(waiter.instruction())) {
                carryOut(waiter.instruction());
                conditions.remove(waiter);
                enter(waiter.process(), "READY", clock);
                note("condition " + waiter.instruction().op());
            }
        }
    }

    private void turn(Process x) {
        while (true) {
            while (x.place < x.body.size()) {
                x.place++;
                if (!perform(x, x.body.get(x.place - 1))) {
                    return;
                }
            }
            if (--x.rounds == 0) {
                x.state = "ENDED";
                return;
            }
            x.place = 0;
        }
    }

    private boolean perform(Process x, Instruction i) {
        if (i.op() == 0) {
            enter(x, "HOLDING", clock + i.a());
            return false;
        }
        if (i.op() == 1) {
            x.state = "PASSIVE";
            return false;
        }
        if (i.op() == 2) {
            return seize(x, resources.get(i.a()), i.b());
        }
        if (i.op() == 3) {
            release(x, i);
        } else if (i.op() <= 6) {
            if (!holds(i)) {
                x.state = "WAITING";
                conditions.add(new Waiter(x, i));
                return false;
            }
            carryOut(i);
        } else if (i.op() == 7) {
            activate(i.a(), 0);
        } else if (i.op() == 8) {
            interrupt(i.a());
        } else {
            kill(i.a());
            return i.a() != x.number;
        }
        return true;
    }

    private boolean holds(Instruction i) {
        return switch (i.op()) {
            case 4 -> level[i.a()] + i.b() <= capacity[i.a()];
            case 5 -> level[i.a()] >= i.b();
            default -> find(i.a()) == null || List.of("ENDED", "KILLED").contains(find(i.a()).state);
        };
    }

    private void carryOut(Instruction i) {
        if (i.op() == 4) {
            level[i.a()] += i.b();
        } else if (i.op() == 5) {
            level[i.a()] -= i.b();
        }
    }

    private void change(Resource r, Process x, int units) {
        r.seized.merge(x, units, Integer::sum);
        r.history.add(new Span(clock, r.capacity - r.free()));
    }

    private void release(Process x, Instruction i) {
        Resource r = resources.get(i.a());
        change(r, x, -Math.min(i.b(), r.of(x)));
        serve(r);
    }

    private void serve(Resource r) {
        while (!r.line.isEmpty() && r.line.get(0).units() <= r.free()) {
            InLine first = r.line.remove(0);
            change(r, first.process(), first.units());
            r.waited += clock - first.since();
            enter(first.process(), "READY", clock);
        }
    }

    private boolean seize(Process x, Resource r, int b) {
        int before = (int) r.line.stream().filter(one -> one.process().priority <= x.priority).count();
        if (before == 0 && r.free() >= b) {
            change(r, x, b);
            return true;
        }
        List<Process> victims = new ArrayList<>(processes);
        victims.removeIf(p -> p.priority <= x.priority || r.of(p) == 0);
        victims.sort((p, q) -> p.priority != q.priority ? q.priority - p.priority : q.number - p.number);
        if (before == 0 && r.preempts && r.free() + victims.stream().mapToInt(r::of).sum() >= b) {
            preempt(x, r, b, victims);
            return true;
        }
        x.state = "QUEUED";
        r.line.add(before, new InLine(x, b, clock));
        return false;
    }

    private void preempt(Process x, Resource r, int b, List<Process> victims) {
        List<Process> losers = new ArrayList<>();
        for (Process victim : victims) {
            if (r.free() < b) {
                change(r, victim, -r.of(victim));
                losers.add(victim);
            }
        }
        change(r, x, b);
        note("losers " + losers.size());
        note("line behind a force of " + Math.min(2, r.line.size()));
        for (Process loser : losers) {
            note("loser " + loser.state + (r.line.stream().anyMatch(l -> l.process() == loser) ? " there" : ""));
            interrupt(loser.number);
        }
        serve(r);
    }
}
