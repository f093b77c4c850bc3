import java.util.ArrayList;
import java.util.List;

/**
 * A call whose answer is false or -1 because something is not as said changes nothing. Each story is told
 * once as it is; then, for every place in it and every call that must be refused there, it is told again
 * with that call put in, and every answer behind it must be the same.
 */
public final class RefusedTest {
    private static final int MOST_CALLS = 512;
    private static final int PROCESSES = 12;
    private static final int RESOURCES = 4;

    private static final String LINES_AND_FORCE = """
        resource 0 4 true
        resource 1 2 false
        process 2 2 3
        body 0: seize 0 2, hold 4, release 0 1, seize 1 1, hold 2, release 1 9, passivate
        process 1 1 4
        body 1: seize 0 2, hold 9, release 0 2, passivate, seize 1 2, hold 3, release 1 1
        process 0 3 0
        body 2: hold 3, seize 0 3, hold 1, release 0 3, wake 0
        process -1 1 10
        body 3: hold 5, seize 0 9, hold 1
        process 2 1 10
        body 4: seize 1 2, hold 6, kill 1, release 1 2, passivate
        activate 0 0
        activate 1 0
        activate 2 1
        run 3 3
        activate 3 1
        activate 4 0
        run 4 6
        resource 0 5 true
        run 3 9
        interrupt 3
        run 2 12
        kill 0
        resource 1 5 true
        run 5 20
        interrupt 4
        run 100 60
        """;

    private static final String TANKS_AND_JOINS = """
        tank 0 10 4
        tank 3 1000 1000
        process 0 2 2
        body 0: take 0 5, put 1 3, join 3, hold 2
        process 1 1 0
        body 1: put 3 1, hold 1, put 0 6, hold 7
        process 0 1 1
        body 2: take 3 300, join 2, passivate, take 1 1
        process 3 9 10
        body 3: hold 1, put 0 1, break 2
        process -4 1 2
        body 4: put 0 6, take 0 9, put 2 1000, put 2 1
        activate 1 0
        activate 0 0
        run 2 0
        activate 4 0
        run 1 1
        activate 3 2
        activate 2 1
        run 4 4
        tank 0 20 9
        run 3 5
        interrupt 4
        run 5 9
        tank 2 999 0
        kill 1
        run 9 15
        run 100 40
        """;

    private static final String TWELVE_AND_A_LONG_TRACE = """
        process 0 9 0
        body 0: hold 1, hold 0, hold 1, hold 0, hold 1, hold 0, hold 1, hold 0, hold 1, hold 0
        process 1 9 9
        body 1: hold 1, hold 1, seize 2 1, hold 1, release 2 1, hold 1, seize 2 1, hold 1, release 2 1, hold 1
        process 0 1 0
        process 0 1 0
        process 4 1 0
        process -4 1 0
        process 0 1 0
        process 0 1 0
        process 0 1 0
        process 0 1 0
        process 0 1 0
        process 0 2 1
        body 11: seize 2 1, passivate
        activate 0 0
        activate 1 0
        run 63 100
        activate 11 0
        run 3 100
        activate 4 2
        activate 5 2
        kill 6
        run 40 100
        interrupt 11
        run 30 100
        activate 11 0
        run 100 1000000000000
        """;

    public static void main(String[] args) {
        int places = 0;
        for (String story : new String[] {LINES_AND_FORCE, TANKS_AND_JOINS, TWELVE_AND_A_LONG_TRACE}) {
            places += tell(callsOf(story));
        }
        Script.due("the stories have many places", places > 100, true);
        Script.end();
    }

    /** The calls of a story, and behind them a look at all that can be seen. */
    private static List<Call> callsOf(String story) {
        List<Call> calls = new ArrayList<>();
        for (String line : story.split("\n")) {
            if (line.startsWith("body ")) {
                calls.addAll(Call.ofBody(line.substring(5)));
            } else {
                calls.add(new Call(line));
            }
            if (line.startsWith("run ")) {
                calls.add(new Call("now"));
                calls.add(new Call("next"));
                calls.add(new Call("traced 0"));
            }
        }
        calls.addAll(looks());
        Script.due("the story and one call more are within the limit", calls.size() < MOST_CALLS, true);
        return calls;
    }

    private static List<Call> looks() {
        List<Call> looks = new ArrayList<>();
        for (String text : new String[] {"now", "next", "stuck", "waiting 4"}) {
            looks.add(new Call(text));
        }
        for (int r = 0; r < RESOURCES; r++) {
            for (String name : new String[] {"free ", "waiting ", "area ", "waited ", "level "}) {
                looks.add(new Call(name + r));
            }
        }
        for (int p = 0; p < PROCESSES; p++) {
            looks.add(new Call("state " + p));
            looks.add(new Call("place " + p));
            for (int r = 0; r < RESOURCES; r++) {
                looks.add(new Call("held " + p + " " + r));
            }
        }
        for (int k = 0; k < 64; k++) {
            looks.add(new Call("traced " + k));
        }
        return looks;
    }

    /** Tells the story with each refused call at each place; answers how many places it has. */
    private static int tell(List<Call> story) {
        List<String> due = new ArrayList<>();
        BatonKernel kernel = new BatonKernel();
        for (Call call : story) {
            due.add(call.on(kernel));
        }
        int places = story.size() - looks().size();
        for (int place = 0; place <= places; place++) {
            for (String refused : refusedAt(story.subList(0, place))) {
                tellWith(story, due, place, new Call(refused));
            }
        }
        return places;
    }

    private static void tellWith(List<Call> story, List<String> due, int place, Call refused) {
        BatonKernel kernel = new BatonKernel();
        String firstWrong = "none";
        for (int i = 0; i < story.size(); i++) {
            if (i == place) {
                String answer = refused.on(kernel);
                Script.due(refused.text + " at " + place, Call.isRefusal(answer) ? "refused" : answer, "refused");
            }
            String answer = story.get(i).on(kernel);
            if (firstWrong.equals("none") && !answer.equals(due.get(i))) {
                firstWrong = story.get(i).text + " = " + answer + ", not " + due.get(i);
            }
        }
        Script.due("behind " + refused.text + " at " + place + ", the first wrong answer", firstWrong, "none");
    }

    /** What the document has refused after these calls. */
    private static List<String> refusedAt(List<Call> told) {
        BatonKernel kernel = new BatonKernel();
        for (Call call : told) {
            call.on(kernel);
        }
        List<String> refused = new ArrayList<>(refusedAlways());
        for (int p = 0; p < PROCESSES; p++) {
            refused.addAll(refusedOf(p, kernel.state(p), lengthOf(p, told)));
        }
        for (int r = 0; r < RESOURCES; r++) {
            int seized = seized(kernel, r);
            if (seized > 0) {
                refused.add("resource " + r + " " + (seized - 1) + " true");
                refused.add("resource " + r + " 0 false");
            }
        }
        if (kernel.state(PROCESSES - 1) != -1) {
            refused.add("process 0 1 0");
            refused.add("process -4 9 10");
        }
        refused.add("run 100 " + (kernel.now() - 1));
        refused.add("run 0 " + (kernel.now() - 1));
        return refused;
    }

    private static int lengthOf(int p, List<Call> told) {
        return (int) told.stream().filter(call -> call.name.equals("instruct") && call.argument(0) == p).count();
    }

    private static int seized(BatonKernel kernel, int r) {
        int sum = 0;
        for (int p = 0; p < PROCESSES; p++) {
            sum += Math.max(0, kernel.held(p, r));
        }
        return sum;
    }

    private static List<String> refusedOf(int p, int state, int length) {
        List<String> refused = new ArrayList<>();
        boolean isNew = state == 0;
        boolean isPassive = state == 3;
        if (!isNew || length == 10) {
            refused.add("instruct " + p + " 1 0 0");
            refused.add("instruct " + p + " 3 0 9");
        }
        if (!isNew && !isPassive) {
            refused.add("activate " + p + " 0");
            refused.add("activate " + p + " 1000000");
        }
        refused.add("activate " + p + " -1");
        refused.add("activate " + p + " 1000001");
        if (state < 2 || state > 5) {
            refused.add("interrupt " + p);
        }
        if (state < 0 || state > 5) {
            refused.add("kill " + p);
        }
        refused.add("instruct " + p + " 10 0 1");
        refused.add("instruct " + p + " 2 4 1");
        refused.add("instruct " + p + " 5 0 1001");
        return refused;
    }

    private static List<String> refusedAlways() {
        return List.of(
                "process -5 1 0", "process 5 1 0", "process 0 0 0", "process 0 10 0", "process 0 1 -1", "process 0 1 11",
                "instruct -1 1 0 0", "instruct 12 1 0 0", "activate -1 0", "activate 12 0",
                "interrupt -1", "interrupt 12", "kill -1", "kill 12",
                "resource -1 1 true", "resource 4 1 true", "resource 0 -1 true", "resource 0 10 true",
                "resource 1 10 false", "resource 2 -1 true", "resource 3 10 true",
                "tank -1 1 1", "tank 4 1 1", "tank 0 1001 1", "tank 0 5 6", "tank 0 5 -1", "tank 0 -1 -1",
                "tank 1 -1 0", "tank 2 1001 1001", "tank 3 0 1",
                "run -1 1000000000000", "run 101 1000000000000", "run 100 1000000000001", "run 0 1000000000001",
                "run 1 -1", "state -1", "state 12", "place -1", "place 12", "held -1 0", "held 12 0", "held 0 -1",
                "held 0 4", "free -1", "free 4", "waiting -1", "waiting 5", "area -1", "area 4", "waited -1", "waited 4",
                "level -1", "level 4", "traced -1", "traced 64");
    }
}
