/** Terms: a turn, the end of a round, and what stays as it is when a process is over. */
public final class TermsTurnTest {
    public static void main(String[] args) {
        places();
        rounds();
        whatStays();
        Script.end();
    }

    private static void places() {
        Script.check("no instruction: the place is not less than the length at once", """
            process 0 1 0 = 0
            activate 0 0 = true
            run 1 0 = 1
            state 0 = 6
            place 0 = 0
            traced 0 = 0
            """);
        Script.check("ten instructions: the last is done, and behind it the round is over", """
            process 0 1 0 = 0
            body 0: put 0 1, put 0 1, put 0 1, put 0 1, put 0 1, put 0 1, put 0 1, put 0 1, put 0 1, hold 1
            activate 0 0 = true
            run 1 0 = 1
            place 0 = 10
            state 0 = 2
            level 0 = 9
            run 1 1 = 1
            traced 0 = 160
            state 0 = 6
            place 0 = 10
            """);
        Script.check("the place grows by 1 before the instruction is done: HOLD and PASSIVATE", """
            process 0 1 0 = 0
            body 0: hold 1, passivate
            activate 0 0 = true
            place 0 = 0
            run 1 0 = 1
            place 0 = 1
            run 1 1 = 1
            place 0 = 2
            """);
        Script.check("the place grows by 1 before the instruction is done: SEIZE in the line", """
            resource 0 0 false = true
            process 0 1 0 = 0
            body 0: seize 0 1
            activate 0 0 = true
            run 1 0 = 1
            state 0 = 4
            place 0 = 1
            """);
        Script.check("the place grows by 1 before the instruction is done: a KILL of itself", """
            process 0 1 0 = 0
            body 0: put 0 1, kill 0, release 0 1
            activate 0 0 = true
            run 1 0 = 1
            place 0 = 2
            """);
        Script.check("one who got its units in the line goes on behind the SEIZE, and does it no more", """
            resource 0 0 false = true
            process 0 1 0 = 0
            body 0: seize 0 2, passivate
            activate 0 0 = true
            run 1 0 = 1
            resource 0 9 false = true
            held 0 0 = 2
            place 0 = 1
            run 1 0 = 1
            held 0 0 = 2
            free 0 = 7
            place 0 = 2
            """);
    }

    private static void rounds() {
        Script.check("one round: it was the last", """
            process 0 1 0 = 0
            body 0: passivate
            activate 0 0 = true
            run 1 0 = 1
            activate 0 0 = true
            run 1 0 = 1
            state 0 = 6
            place 0 = 1
            """);
        Script.check("two rounds: the turn goes on at place 0", """
            process 0 2 0 = 0
            body 0: put 0 1, passivate, put 0 10
            activate 0 0 = true
            run 1 0 = 1
            level 0 = 1
            activate 0 0 = true
            run 1 0 = 1
            level 0 = 12
            place 0 = 2
            state 0 = 3
            activate 0 0 = true
            run 1 0 = 1
            level 0 = 22
            state 0 = 6
            place 0 = 3
            """);
        Script.check("nine rounds of no instruction end in one turn", """
            process 0 9 0 = 0
            activate 0 4 = true
            run 2 9 = 1
            state 0 = 6
            place 0 = 0
            """);
        Script.check("a handler beyond the body ends a round each time", """
            process 0 3 10 = 0
            body 0: passivate
            activate 0 0 = true
            run 1 0 = 1
            interrupt 0 = true
            run 1 0 = 1
            state 0 = 3
            place 0 = 1
            interrupt 0 = true
            run 1 0 = 1
            state 0 = 3
            place 0 = 1
            interrupt 0 = true
            run 1 0 = 1
            state 0 = 6
            place 0 = 10
            """);
        Script.check("a handler within the body begins no round anew", """
            process 0 1 0 = 0
            body 0: put 0 1, passivate
            activate 0 0 = true
            run 1 0 = 1
            interrupt 0 = true
            run 1 0 = 1
            interrupt 0 = true
            run 1 0 = 1
            level 0 = 3
            state 0 = 3
            activate 0 0 = true
            run 1 0 = 1
            state 0 = 6
            """);
        Script.check("units seized in several rounds add up", """
            resource 0 9 false = true
            process 0 9 0 = 0
            body 0: seize 0 1
            activate 0 0 = true
            run 1 0 = 1
            held 0 0 = 9
            free 0 = 0
            state 0 = 6
            """);
        Script.check("for a ninth unit of eight it stands in the line", """
            resource 0 8 false = true
            process 0 9 0 = 0
            body 0: seize 0 1
            activate 0 0 = true
            run 1 0 = 1
            held 0 0 = 8
            state 0 = 4
            place 0 = 1
            resource 0 9 false = true
            held 0 0 = 9
            run 1 0 = 1
            state 0 = 6
            """);
    }

    private static void whatStays() {
        Script.check("what an ENDED process has seized stays seized, and its place stays", """
            resource 0 3 false = true
            process 0 1 0 = 0
            body 0: seize 0 2, put 0 1
            process 0 1 0 = 1
            body 1: seize 0 2
            activate 0 0 = true
            activate 1 0 = true
            run 2 0 = 2
            state 0 = 6
            held 0 0 = 2
            free 0 = 1
            place 0 = 2
            state 1 = 4
            run 1 1000 = 0
            held 0 0 = 2
            place 0 = 2
            area 0 = 2000
            """);
        Script.check("what a KILLED process has seized stays seized, and its place stays", """
            process 0 1 0 = 0
            body 0: seize 0 1, passivate, hold 1
            activate 0 0 = true
            run 1 0 = 1
            kill 0 = true
            held 0 0 = 1
            free 0 = 0
            place 0 = 2
            run 1 10 = 0
            held 0 0 = 1
            place 0 = 2
            area 0 = 10
            """);
    }
}
