public final class P08KillTest {
    public static void main(String[] args) {
        Script.check("each state that can be killed", """
            resource 0 0 false = true
            process 0 1 0 = 0
            process 0 1 0 = 1
            process 0 1 0 = 2
            body 2: hold 9
            process 0 1 0 = 3
            body 3: passivate
            process 0 1 0 = 4
            body 4: seize 0 1
            process 0 1 0 = 5
            body 5: take 0 1
            activate 2 0 = true
            activate 3 0 = true
            activate 4 0 = true
            activate 5 0 = true
            run 4 0 = 4
            activate 1 3 = true
            next = 3
            kill 0 = true
            kill 1 = true
            next = 9
            kill 2 = true
            next = -1
            stuck = true
            kill 3 = true
            kill 4 = true
            waiting 0 = 0
            stuck = true
            kill 5 = true
            waiting 4 = 0
            stuck = false
            state 0 = 7
            state 1 = 7
            state 2 = 7
            state 3 = 7
            state 4 = 7
            state 5 = 7
            place 0 = 0
            place 2 = 1
            refused: kill 0; kill 5
            run 9 99 = 0
            """);
        Script.check("wrong inputs", """
            refused: kill 0
            process 0 1 0 = 0
            refused: kill -1; kill 1; kill 12; kill -2147483648
            activate 0 0 = true
            run 1 0 = 1
            state 0 = 6
            refused: kill 0
            """);
        Script.check("only the RELEASEs from its place on are done", """
            resource 0 9 false = true
            resource 1 9 false = true
            tank 0 10 5 = true
            process 0 9 0 = 0
            body 0: seize 0 6, seize 1 2, release 0 1, passivate, release 0 2, put 0 1, seize 1 1, release 1 9, release 1 1
            activate 0 0 = true
            run 1 0 = 1
            held 0 0 = 5
            kill 0 = true
            held 0 0 = 3          # what it does not give back stays seized
            held 0 1 = 0
            free 0 = 6
            free 1 = 9
            level 0 = 5
            place 0 = 4
            """);
        Script.check("a body of ten whose last is a RELEASE, and a place beyond the body", """
            resource 0 3 false = true
            process 0 1 0 = 0
            body 0: seize 0 2, passivate, hold 1, hold 1, hold 1, hold 1, hold 1, hold 1, hold 1, release 0 2
            process 0 1 10 = 1
            body 1: seize 0 1, passivate, release 0 1
            activate 0 0 = true
            activate 1 0 = true
            run 2 0 = 2
            kill 0 = true
            held 0 0 = 0
            place 0 = 2
            interrupt 1 = true
            kill 1 = true
            held 1 0 = 1
            place 1 = 10
            next = -1
            """);
        Script.check("what is given back goes to the lines, in order of the RELEASEs", """
            process 0 1 0 = 0
            body 0: seize 0 1, seize 1 1, passivate, release 1 1, release 0 1
            process 0 1 0 = 1
            body 1: seize 0 1, passivate
            process 0 1 0 = 2
            body 2: seize 1 1, passivate
            activate 0 0 = true
            activate 1 0 = true
            activate 2 0 = true
            run 3 0 = 3
            run 1 8 = 0
            kill 0 = true
            held 1 0 = 1
            held 2 1 = 1
            waited 0 = 8
            waited 1 = 8
            run 2 8 = 2
            traced 1 = 18
            traced 0 = 17
            """);
        Script.check("one in the line of a resource leaves it; then the line is served", """
            resource 0 2 false = true
            process 0 1 0 = 0
            body 0: seize 0 1, passivate
            process 0 1 0 = 1
            body 1: seize 0 2
            process 0 1 0 = 2
            body 2: seize 0 1
            activate 0 0 = true
            activate 1 0 = true
            activate 2 0 = true
            run 3 0 = 3
            run 1 4 = 0
            kill 1 = true
            waiting 0 = 0
            held 2 0 = 1
            waited 0 = 4
            state 2 = 1
            """);
        Script.check("its RELEASEs are done before the line that it left is served", """
            resource 0 2 false = true
            process 0 1 0 = 0
            body 0: seize 0 1, passivate
            process 0 1 0 = 1
            body 1: seize 1 1, seize 0 2, release 1 1
            process 0 1 0 = 2
            body 2: seize 0 1
            process 0 1 0 = 3
            body 3: seize 1 1
            activate 0 0 = true
            activate 1 0 = true
            activate 2 0 = true
            activate 3 0 = true
            run 4 0 = 4
            waiting 0 = 2
            waiting 1 = 1
            kill 1 = true
            run 2 0 = 2
            traced 1 = 19
            traced 0 = 18
            """);
        Script.check("an ended or killed process keeps its units", """
            process 0 1 0 = 0
            body 0: seize 0 1
            process 0 1 0 = 1
            body 1: seize 1 1, passivate
            activate 0 0 = true
            activate 1 0 = true
            run 2 0 = 2
            kill 1 = true
            held 0 0 = 1
            held 1 1 = 1
            free 0 = 0
            free 1 = 0
            run 1 5 = 0
            area 0 = 5
            area 1 = 5
            """);
        Script.check("KILL is kill; the turn ends when the process killed itself", """
            process 0 1 0 = 0
            body 0: kill 1, kill 1, kill 7, seize 0 1, kill 0, put 0 1, release 0 1, hold 3
            process 0 1 0 = 1
            body 1: passivate
            activate 1 0 = true
            run 1 0 = 1
            activate 0 0 = true
            run 1 0 = 1
            state 1 = 7
            state 0 = 7
            place 0 = 5
            level 0 = 0
            held 0 0 = 0
            next = -1
            """);
        Script.check("who joined goes on after the event in which the other ended or was killed", """
            process 0 1 0 = 0
            body 0: join 1, join 2, join 0
            process 0 1 0 = 1
            body 1: hold 3
            process 0 1 0 = 2
            body 2: passivate
            process 0 1 0 = 3
            activate 0 0 = true
            activate 1 0 = true
            activate 2 0 = true
            run 3 0 = 3
            state 0 = 5
            run 1 3 = 1
            state 0 = 1
            next = 3
            run 1 3 = 1
            state 0 = 5
            place 0 = 2
            kill 2 = true
            state 0 = 5
            stuck = true
            activate 3 0 = true
            run 1 3 = 1
            state 0 = 1
            run 1 3 = 1
            state 0 = 5           # it waits for its own end
            place 0 = 3
            """);
        Script.check("of a NEW process with RELEASEs in its body: it has nothing to give back", """
            resource 0 5 false = true
            process 0 1 0 = 0
            body 0: seize 0 3, release 0 3
            process 0 1 0 = 1
            body 1: seize 0 2, passivate
            activate 1 0 = true
            run 1 0 = 1
            kill 0 = true
            free 0 = 3
            held 1 0 = 2
            state 0 = 7
            place 0 = 0
            """);
        Script.check("no instruction is left: nothing is given back", """
            process 0 2 0 = 0
            body 0: release 0 1, seize 0 1, passivate
            activate 0 0 = true
            run 1 0 = 1
            place 0 = 3
            kill 0 = true
            held 0 0 = 1
            free 0 = 0
            """);
        Script.check("the RELEASE at its very place is done, the one before it is not", """
            resource 0 9 false = true
            process 0 1 2 = 0
            body 0: seize 0 9, release 0 1, release 0 2, passivate, release 0 4
            activate 0 0 = true
            run 1 0 = 1
            held 0 0 = 6
            interrupt 0 = true
            place 0 = 2
            kill 0 = true
            held 0 0 = 0           # 2 and 4
            free 0 = 9
            place 0 = 2
            """);
        Script.check("the RELEASE at its very place, seen by what is left", """
            resource 0 9 false = true
            process 0 1 2 = 0
            body 0: seize 0 9, release 0 1, release 0 2, passivate
            activate 0 0 = true
            run 1 0 = 1
            held 0 0 = 6
            interrupt 0 = true
            kill 0 = true
            held 0 0 = 4
            """);
        Script.check("one in a line that gives back units of that resource", """
            resource 0 3 false = true
            process 0 1 0 = 0
            body 0: seize 0 2, seize 0 2, release 0 1
            process 0 1 0 = 1
            body 1: seize 0 2
            process 0 1 0 = 2
            body 2: seize 0 1
            activate 0 0 = true
            activate 1 0 = true
            activate 2 0 = true
            run 3 0 = 3
            waiting 0 = 3
            free 0 = 1
            kill 0 = true
            held 0 0 = 1
            held 1 0 = 2
            held 2 0 = 0
            free 0 = 0
            waiting 0 = 1
            """);
        Script.check("a HOLDING one leaves the event list, and none of its events comes", """
            process 0 1 0 = 0
            body 0: hold 5, put 0 1
            activate 0 0 = true
            run 1 0 = 1
            kill 0 = true
            next = -1
            run 100 100 = 0
            level 0 = 0
            """);
        Script.check("kill once, not twice", """
            process 0 1 0 = 0
            body 0: release 0 1
            kill 0 = true
            refused: kill 0; kill 0; activate 0 0; interrupt 0; instruct 0 1 0 0
            """);
        Script.end();
    }
}
