public final class P06ActivateTest {
    public static void main(String[] args) {
        Script.check("NEW and PASSIVE, edges and wrong inputs", """
            refused: activate 0 0
            process 0 1 0 = 0
            body 0: passivate, hold 2
            process 0 1 0 = 1
            refused: activate 0 -1; activate 0 1000001; activate -1 0; activate 2 0; activate 12 0
            activate 1 1000000 = true
            next = 1000000
            activate 0 7 = true
            state 0 = 1
            place 0 = 0
            next = 7
            refused: activate 0 0; activate 0 7
            run 1 9 = 1
            state 0 = 3
            run 1 9 = 0
            activate 0 3 = true
            next = 12
            state 0 = 1
            place 0 = 1
            """);
        Script.check("no other state", """
            resource 0 0 false = true
            process 0 1 0 = 0
            body 0: seize 0 1
            process 0 1 0 = 1
            body 1: take 0 1
            process 0 1 0 = 2
            body 2: hold 9
            process 0 1 0 = 3
            process 0 1 0 = 4
            activate 0 0 = true
            activate 1 0 = true
            activate 2 0 = true
            activate 3 0 = true
            run 4 0 = 4
            kill 4 = true
            refused: activate 0 0; activate 1 0; activate 2 0; activate 3 0; activate 4 0
            next = 9
            """);
        Script.check("of equal time and priority, in order of entering", """
            process 0 1 0 = 0
            process 0 1 0 = 1
            process 0 1 0 = 2
            run 1 5 = 0
            activate 2 5 = true
            activate 0 5 = true
            activate 1 4 = true
            run 9 99 = 3
            traced 2 = 1
            traced 1 = 2
            traced 0 = 0
            """);
        Script.check("WAKE is activate with no delay, and nothing where that answers false", """
            process 0 1 0 = 0
            body 0: wake 1, wake 1, wake 0, wake 7, wake 2, hold 1
            process 0 1 0 = 1
            process 0 1 0 = 2
            body 2: hold 50
            run 1 10 = 0
            activate 2 0 = true
            run 1 10 = 1
            activate 0 0 = true
            run 1 10 = 1
            place 0 = 6
            state 0 = 2
            state 1 = 1
            state 2 = 2
            next = 10
            run 1 10 = 1
            traced 0 = 1
            next = 11
            """);
        Script.check("delay 0 and 1000000 at the latest time", """
            process 0 1 0 = 0
            process 0 1 0 = 1
            run 1 1000000000000 = 0
            activate 0 1000000 = true
            next = 1000001000000
            activate 1 0 = true
            next = 1000000000000
            run 2 1000000000000 = 1
            next = 1000001000000
            state 0 = 1
            """);
        Script.check("a PASSIVE process keeps its place, also when that is behind its body", """
            process 0 1 0 = 0
            body 0: passivate
            activate 0 0 = true
            run 1 0 = 1
            place 0 = 1
            activate 0 2 = true
            place 0 = 1
            run 1 2 = 1
            traced 0 = 16
            state 0 = 6
            """);
        Script.check("an activated one waits in the event list: it can not be broken off or activated again", """
            process 0 1 0 = 0
            activate 0 1000000 = true
            refused: activate 0 0; activate 0 1000000; interrupt 0
            next = 1000000
            """);
        Script.end();
    }
}
