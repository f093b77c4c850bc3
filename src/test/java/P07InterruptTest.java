public final class P07InterruptTest {
    public static void main(String[] args) {
        Script.check("a HOLDING and a PASSIVE process", """
            process 0 1 2 = 0
            body 0: hold 100, hold 100, hold 3, passivate, hold 5
            activate 0 0 = true
            run 1 10 = 1
            run 1 10 = 0
            interrupt 0 = true
            state 0 = 1
            place 0 = 2
            next = 10
            refused: interrupt 0
            run 1 10 = 1
            next = 13
            run 1 20 = 1
            state 0 = 3
            interrupt 0 = true
            place 0 = 2
            next = 13
            run 1 20 = 1
            next = 16
            """);
        Script.check("wrong inputs", """
            refused: interrupt 0
            process 0 1 0 = 0
            refused: interrupt -1; interrupt 0; interrupt 1; interrupt 12; interrupt 2147483647
            activate 0 5 = true
            refused: interrupt 0
            run 9 9 = 1
            state 0 = 6
            refused: interrupt 0
            process 0 1 0 = 1
            kill 1 = true
            refused: interrupt 1
            """);
        Script.check("the handler may be the end of the body or beyond it", """
            process 0 2 10 = 0
            body 0: passivate
            process 0 1 1 = 1
            body 1: passivate
            activate 0 0 = true
            activate 1 0 = true
            run 2 0 = 2
            interrupt 0 = true
            interrupt 1 = true
            place 0 = 10
            run 1 0 = 1
            traced 0 = 160
            state 0 = 3
            place 0 = 1
            interrupt 0 = true
            run 2 0 = 2
            state 0 = 6
            place 0 = 10
            state 1 = 6
            place 1 = 1
            """);
        Script.check("one in the line of a resource leaves it; then the line is served", """
            resource 0 2 false = true
            process 0 1 0 = 0
            body 0: seize 0 1, passivate
            process 0 1 1 = 1
            body 1: seize 0 2, hold 1
            process 0 1 0 = 2
            body 2: seize 0 1, hold 1
            activate 0 0 = true
            activate 1 0 = true
            activate 2 0 = true
            run 3 0 = 3
            waiting 0 = 2
            run 1 6 = 0
            interrupt 1 = true
            state 1 = 1
            place 1 = 1
            waiting 0 = 0
            held 1 0 = 0
            held 2 0 = 1
            state 2 = 1
            waited 0 = 6          # the interrupted one does not count
            run 2 6 = 2
            traced 1 = 17         # it was entered before the line was served
            traced 0 = 18
            """);
        Script.check("one in the line of conditions leaves it, and gets nothing", """
            tank 0 10 3 = true
            process 0 1 1 = 0
            body 0: take 0 5, hold 2, put 0 2
            process 0 1 0 = 1
            body 1: take 0 4
            activate 0 0 = true
            activate 1 0 = true
            run 2 0 = 2
            waiting 4 = 2
            interrupt 0 = true
            waiting 4 = 1
            level 0 = 3
            run 1 0 = 1
            state 0 = 2
            run 9 9 = 2
            state 1 = 6
            level 0 = 1
            waiting 4 = 0
            """);
        Script.check("BREAK is interrupt, and nothing where that answers false", """
            process 0 1 0 = 0
            body 0: break 1, break 0, break 2, break 9, break 1, hold 1
            process 0 1 1 = 1
            body 1: passivate, hold 7
            process 0 1 0 = 2
            activate 1 0 = true
            run 1 0 = 1
            activate 0 0 = true
            run 1 0 = 1
            place 0 = 6
            state 0 = 2
            state 1 = 1
            place 1 = 1
            state 2 = 0
            run 1 0 = 1
            next = 1
            """);
        Script.check("an interrupted holder keeps what it has", """
            process 0 1 2 = 0
            body 0: seize 1 1, hold 10, passivate
            activate 0 0 = true
            run 1 0 = 1
            interrupt 0 = true
            held 0 1 = 1
            free 1 = 0
            """);
        Script.check("NEW, READY, ENDED and KILLED ones are not broken off", """
            process 0 1 5 = 0
            process 0 1 5 = 1
            process 0 1 5 = 2
            process 0 1 5 = 3
            activate 2 0 = true
            run 1 0 = 1
            activate 1 3 = true
            kill 3 = true
            refused: interrupt 0; interrupt 1; interrupt 2; interrupt 3
            place 0 = 0
            place 1 = 0
            next = 3
            """);
        Script.check("the handler is 0: the body begins again, in the same round", """
            process 0 1 0 = 0
            body 0: put 0 1, hold 5
            activate 0 0 = true
            run 1 0 = 1
            interrupt 0 = true
            place 0 = 0
            run 1 0 = 1
            traced 0 = 0
            level 0 = 2
            next = 5
            """);
        Script.check("entered for now: the clock's time, not that of the hold", """
            process 0 1 10 = 0
            body 0: hold 1000000
            activate 0 0 = true
            run 1 0 = 1
            run 1 999999 = 0
            interrupt 0 = true
            next = 999999
            run 2 2000000 = 1
            state 0 = 6
            next = -1
            """);
        Script.check("in the line of a resource it does not want that any more", """
            process 0 1 10 = 0
            body 0: seize 0 2
            activate 0 0 = true
            run 1 0 = 1
            interrupt 0 = true
            resource 0 9 false = true
            held 0 0 = 0
            free 0 = 9
            run 1 0 = 1
            state 0 = 6
            """);
        Script.check("interrupted twice: the second time it is READY", """
            process 0 1 3 = 0
            body 0: passivate
            activate 0 0 = true
            run 1 0 = 1
            interrupt 0 = true
            refused: interrupt 0
            run 2 0 = 1
            """);
        Script.end();
    }
}
