import java.util.ArrayList;
import java.util.List;

/**
 * Runs of calls written as text, each on a new kernel. A line is one of
 *   run 3 10 = 2                      a call and the answer that is due
 *   body 0: hold 10, seize 1 2        instructions for process 0, each of which must be taken
 *   refused: kill 12; kill -1         calls that must answer false or -1 and change nothing that can be seen
 * What stands behind a # is a comment.
 */
final class Script {
    private static final int MOST_CALLS = 512;
    private static final List<String> OPS = List.of(
            "hold", "passivate", "seize", "release", "put", "take", "join", "wake", "break", "kill");
    private static int wrong = 0;
    private static int right = 0;

    private final BatonKernel kernel = new BatonKernel();
    private final String name;
    private int calls = 0;
    private int processes = 0;

    private Script(String name) {
        this.name = name;
    }

    static void check(String name, String text) {
        Script script = new Script(name);
        for (String line : text.split("\n")) {
            script.line(line.replaceAll("#.*", "").trim());
        }
        script.due("the number of calls is within the limit", script.calls <= MOST_CALLS ? "yes" : "no", "yes");
    }

    /** Ends the test: exit code 1 if an answer was wrong. */
    static void end() {
        System.out.println(right + " answers as due, " + wrong + " not");
        if (wrong > 0 || right == 0) {
            System.exit(1);
        }
    }

    static void due(String what, Object got, Object want) {
        if (got.equals(want)) {
            right++;
        } else {
            wrong++;
            System.out.println(what + ": got " + got + ", due is " + want);
        }
    }

    private void due(String what, String got, String want) {
        due(name + ": " + what, (Object) got, want);
    }

    private void line(String line) {
        if (line.isEmpty()) {
            return;
        }
        if (line.startsWith("body ")) {
            body(line.substring(5));
        } else if (line.startsWith("refused:")) {
            refused(line.substring(8));
        } else {
            String[] sides = line.split("=");
            due(line, call(sides[0].trim()), sides[1].trim());
        }
    }

    private void body(String text) {
        String[] sides = text.split(":");
        for (String instruction : sides[1].split(",")) {
            String[] words = instruction.trim().split(" ");
            int op = OPS.indexOf(words[0]);
            String a = words.length > 1 ? words[1] : "0";
            String b = words.length > 2 ? words[2] : "0";
            due("body " + text, call("instruct " + sides[0].trim() + " " + op + " " + a + " " + b), "true");
        }
    }

    private void refused(String text) {
        List<String> before = seen();
        for (String call : text.split(";")) {
            String got = call(call.trim());
            due("refused " + call, got.equals("false") || got.equals("-1") ? "no" : got, "no");
        }
        due("after refused" + text, seen().toString(), before.toString());
    }

    private List<String> seen() {
        List<String> seen = new ArrayList<>();
        see(seen, "now", "next", "stuck", "traced 0", "traced 1", "waiting 4");
        for (int r = 0; r < 4; r++) {
            see(seen, "free " + r, "waiting " + r, "area " + r, "waited " + r, "level " + r);
        }
        for (int p = 0; p < processes; p++) {
            see(seen, "state " + p, "place " + p);
            for (int r = 0; r < 4; r++) {
                see(seen, "held " + p + " " + r);
            }
        }
        return seen;
    }

    private void see(List<String> seen, String... calls) {
        for (String call : calls) {
            seen.add(call + " = " + call(call));
        }
    }

    private String call(String text) {
        calls++;
        String[] words = text.split(" +");
        int[] n = new int[4];
        for (int i = 1; i < words.length; i++) {
            boolean isNumber = words[i].matches("-?[0-9]+") && !words[0].equals("run");
            n[i - 1] = isNumber ? Integer.parseInt(words[i]) : 0;
        }
        switch (words[0]) {
            case "process": return made(kernel.process(n[0], n[1], n[2]));
            case "instruct": return "" + kernel.instruct(n[0], n[1], n[2], n[3]);
            case "resource": return "" + kernel.resource(n[0], n[1], words[3].equals("true"));
            case "tank": return "" + kernel.tank(n[0], n[1], n[2]);
            case "activate": return "" + kernel.activate(n[0], n[1]);
            case "interrupt": return "" + kernel.interrupt(n[0]);
            case "kill": return "" + kernel.kill(n[0]);
            case "run": return "" + kernel.run(Integer.parseInt(words[1]), Long.parseLong(words[2]));
            case "now": return "" + kernel.now();
            case "next": return "" + kernel.next();
            case "state": return "" + kernel.state(n[0]);
            case "place": return "" + kernel.place(n[0]);
            case "held": return "" + kernel.held(n[0], n[1]);
            case "free": return "" + kernel.free(n[0]);
            case "waiting": return "" + kernel.waiting(n[0]);
            case "area": return "" + kernel.area(n[0]);
            case "waited": return "" + kernel.waited(n[0]);
            case "level": return "" + kernel.level(n[0]);
            case "stuck": return "" + kernel.stuck();
            case "traced": return "" + kernel.traced(n[0]);
            default: return "no such call";
        }
    }

    private String made(int p) {
        if (p >= 0) {
            processes++;
        }
        return "" + p;
    }
}
