import java.util.ArrayList;
import java.util.List;

/**
 * Runs of calls written as text, each on a new kernel. A line is one of
 *   run 3 10 = 2                      a call and the answer that is due
 *   body 0: hold 10, seize 1 2        instructions for process 0, each of which must be taken
 *   refused: kill 12; kill -1         calls that must answer false or -1 and change nothing that can be seen
 * What stands behind a # is a comment.
 */
final class Script {
    private static final int MOST_CALLS = 512;
    private static int wrong = 0;
    private static int right = 0;

    private final BatonKernel kernel = new BatonKernel();
    private final String name;
    private int calls = 0;
    private int processes = 0;

    private Script(String name) {
        this.name = name;
    }

    static void check(String name, String text) {
        Script script = new Script(name);
        for (String line : text.split("\n")) {
            script.line(line.replaceAll("#.*", "").trim());
        }
        script.due("the number of calls is within the limit", script.calls <= MOST_CALLS ? "yes" : "no", "yes");
    }

    /** Ends the test: exit code 1 if an answer was wrong. */
    static void end() {
        System.out.println(right + " answers as due, " + wrong + " not");
        if (wrong > 0 || right == 0) {
            System.exit(1);
        }
    }

    static void due(String what, Object got, Object want) {
        if (got.equals(want)) {
            right++;
        } else {
            wrong++;
            System.out.println(what + ": got " + got + ", due is " + want);
        }
    }

    private void due(String what, String got, String want) {
        due(name + ": " + what, (Object) got, want);
    }

    private void line(String line) {
        if (line.isEmpty()) {
            return;
        }
        if (line.startsWith("body ")) {
            for (Call call : Call.ofBody(line.substring(5))) {
                due(line, answer(call), "true");
            }
        } else if (line.startsWith("refused:")) {
            refused(line.substring(8));
        } else {
            String[] sides = line.split("=");
            due(line, answer(new Call(sides[0])), sides[1].trim());
        }
    }

    private void refused(String text) {
        List<String> before = seen();
        for (String call : text.split(";")) {
            String got = answer(new Call(call));
            due("refused " + call, Call.isRefusal(got) ? "no" : got, "no");
        }
        due("after refused" + text, seen().toString(), before.toString());
    }

    private List<String> seen() {
        List<String> seen = new ArrayList<>();
        see(seen, "now", "next", "stuck", "traced 0", "traced 1", "waiting 4");
        for (int r = 0; r < 4; r++) {
            see(seen, "free " + r, "waiting " + r, "area " + r, "waited " + r, "level " + r);
        }
        for (int p = 0; p < processes; p++) {
            see(seen, "state " + p, "place " + p);
            for (int r = 0; r < 4; r++) {
                see(seen, "held " + p + " " + r);
            }
        }
        return seen;
    }

    private void see(List<String> seen, String... texts) {
        for (String text : texts) {
            seen.add(text + " = " + answer(new Call(text)));
        }
    }

    private String answer(Call call) {
        calls++;
        String answer = call.on(kernel);
        if (call.name.equals("process") && !Call.isRefusal(answer)) {
            processes++;
        }
        return answer;
    }
}
