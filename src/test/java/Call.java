import java.util.ArrayList;
import java.util.List;

/** A call of a kernel that is written as text, such as "run 3 10" or "resource 0 9 true". */
final class Call {
    private static final List<String> OPS = List.of(
            "hold", "passivate", "seize", "release", "put", "take", "join", "wake", "break", "kill");
    private static final int MOST_ARGUMENTS = 4;

    final String text;
    final String name;
    private final long[] arguments = new long[MOST_ARGUMENTS];

    Call(String text) {
        String[] words = text.trim().split(" +");
        this.text = text.trim();
        this.name = words[0];
        for (int i = 1; i < words.length; i++) {
            arguments[i - 1] = words[i].equals("true") ? 1 : words[i].equals("false") ? 0 : Long.parseLong(words[i]);
        }
    }

    /** The calls that give a process its body, for a text such as "0: hold 10, seize 1 2". */
    static List<Call> ofBody(String text) {
        List<Call> calls = new ArrayList<>();
        String[] sides = text.split(":");
        for (String instruction : sides[1].split(",")) {
            String[] words = instruction.trim().split(" ");
            String a = words.length > 1 ? words[1] : "0";
            String b = words.length > 2 ? words[2] : "0";
            calls.add(new Call("instruct " + sides[0].trim() + " " + OPS.indexOf(words[0]) + " " + a + " " + b));
        }
        return calls;
    }

    int argument(int i) {
        return (int) arguments[i];
    }

    static boolean isRefusal(String answer) {
        return answer.equals("false") || answer.equals("-1");
    }

    String on(BatonKernel kernel) {
        int a = argument(0);
        int b = argument(1);
        int c = argument(2);
        int d = argument(3);
        switch (name) {
            case "process": return "" + kernel.process(a, b, c);
            case "instruct": return "" + kernel.instruct(a, b, c, d);
            case "resource": return "" + kernel.resource(a, b, c == 1);
            case "tank": return "" + kernel.tank(a, b, c);
            case "activate": return "" + kernel.activate(a, b);
            case "interrupt": return "" + kernel.interrupt(a);
            case "kill": return "" + kernel.kill(a);
            case "run": return "" + kernel.run(a, arguments[1]);
            case "now": return "" + kernel.now();
            case "next": return "" + kernel.next();
            case "state": return "" + kernel.state(a);
            case "place": return "" + kernel.place(a);
            case "held": return "" + kernel.held(a, b);
            case "free": return "" + kernel.free(a);
            case "waiting": return "" + kernel.waiting(a);
            case "area": return "" + kernel.area(a);
            case "waited": return "" + kernel.waited(a);
            case "level": return "" + kernel.level(a);
            case "stuck": return "" + kernel.stuck();
            case "traced": return "" + kernel.traced(a);
            default: return "no such call";
        }
    }
}
