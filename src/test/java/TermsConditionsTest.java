/** Terms: the line of conditions. */
public final class TermsConditionsTest {
    public static void main(String[] args) {
        order();
        once();
        goingOn();
        fullAndEmpty();
        Script.end();
    }

    private static void order() {
        Script.check("the last to come is last in the line, whatever its priority", """
            process 0 1 0 = 0
            body 0: take 0 1
            process -4 1 0 = 1
            body 1: take 0 1
            process 4 1 0 = 2
            body 2: put 0 1
            activate 0 0 = true
            activate 1 1 = true
            activate 2 2 = true
            run 3 2 = 3
            state 0 = 1
            state 1 = 5
            """);
        Script.check("one whose condition does not hold does not stop those behind it", """
            process 0 1 0 = 0
            body 0: take 0 5
            process 0 1 0 = 1
            body 1: take 0 1
            process 0 1 0 = 2
            body 2: put 0 4
            activate 0 0 = true
            activate 1 0 = true
            activate 2 0 = true
            run 3 0 = 3
            state 0 = 5
            state 1 = 1
            level 0 = 3
            waiting 4 = 1
            """);
        Script.check("those who go on are entered in the order of the line", """
            process 0 1 0 = 0
            process 0 1 0 = 1
            body 1: take 1 1
            process 0 1 0 = 2
            body 2: take 0 1
            process 0 1 0 = 3
            body 3: join 0
            activate 3 0 = true
            activate 2 0 = true
            activate 1 0 = true
            run 3 0 = 3
            tank 0 1 1 = true
            tank 1 1 1 = true
            activate 0 0 = true
            run 1 0 = 1
            waiting 4 = 0
            run 3 0 = 3
            traced 2 = 19
            traced 1 = 18
            traced 0 = 17
            """);
    }

    private static void once() {
        Script.check("a condition that comes true by one behind waits for the next event", """
            process 0 1 0 = 0
            body 0: take 0 1
            process 0 1 0 = 1
            body 1: put 0 1000
            activate 0 0 = true
            run 1 0 = 1
            tank 0 10 0 = true
            activate 1 0 = true
            run 1 0 = 1
            waiting 4 = 2
            tank 0 1000 0 = true
            process 0 1 0 = 2
            activate 2 0 = true
            run 1 0 = 1
            state 0 = 5
            state 1 = 1
            level 0 = 1000
            run 1 0 = 1
            state 0 = 1
            level 0 = 999
            """);
        Script.check("a condition that comes true by one before holds at that moment", """
            process 0 1 0 = 0
            body 0: put 0 1000
            process 0 1 0 = 1
            body 1: take 0 1000
            process 0 1 0 = 2
            body 2: put 0 999
            tank 0 10 0 = true
            activate 0 0 = true
            activate 1 0 = true
            activate 2 0 = true
            run 3 0 = 3
            waiting 4 = 3
            tank 0 1000 0 = true
            process 0 1 0 = 3
            activate 3 0 = true
            run 1 0 = 1
            waiting 4 = 0
            level 0 = 999
            """);
        Script.check("a condition that one before takes away no longer holds", """
            process 0 1 0 = 0
            body 0: take 0 3
            process 0 1 0 = 1
            body 1: take 0 3
            process 0 1 0 = 2
            body 2: take 0 2
            process 0 1 0 = 3
            body 3: put 0 5
            activate 0 0 = true
            activate 1 0 = true
            activate 2 0 = true
            activate 3 0 = true
            run 4 0 = 4
            state 0 = 1
            state 1 = 5
            state 2 = 1
            level 0 = 0
            waiting 4 = 1
            """);
    }

    private static void goingOn() {
        Script.check("what it puts is put at once, before its turn", """
            tank 0 5 5 = true
            process 0 1 0 = 0
            body 0: put 0 2, put 1 1
            process -1 1 0 = 1
            body 1: take 0 2
            activate 0 0 = true
            activate 1 1 = true
            run 2 1 = 2
            level 0 = 5
            level 1 = 0
            state 0 = 1
            place 0 = 1
            next = 1
            run 1 1 = 1
            level 0 = 5
            level 1 = 1
            """);
        Script.check("no call but run goes over the line, and run only by an event", """
            tank 0 10 0 = true
            process 0 1 0 = 0
            body 0: take 0 1
            process 0 1 5 = 1
            body 1: passivate
            process 0 1 5 = 2
            body 2: seize 0 2
            activate 0 0 = true
            activate 1 0 = true
            activate 2 0 = true
            run 3 0 = 3
            tank 0 10 1 = true
            process 0 1 0 = 3
            instruct 3 1 0 0 = true
            state 0 = 5
            resource 0 2 false = true
            state 0 = 5
            interrupt 1 = true
            state 0 = 5
            kill 1 = true
            kill 2 = true
            state 0 = 5
            activate 3 5 = true
            state 0 = 5
            run 0 4 = 0
            run 9 4 = 0
            state 0 = 5
            level 0 = 1
            run 1 5 = 1
            state 0 = 1
            level 0 = 0
            """);
        Script.check("a kill from outside: who joined goes on only after the next event", """
            process 0 1 0 = 0
            body 0: join 1
            process 0 1 0 = 1
            process 0 1 0 = 2
            activate 0 0 = true
            run 1 0 = 1
            state 0 = 5
            kill 1 = true
            state 0 = 5
            stuck = true
            run 100 7 = 0
            state 0 = 5
            waiting 4 = 1
            activate 2 0 = true
            run 1 7 = 1
            state 0 = 1
            waiting 4 = 0
            stuck = false
            """);
        Script.check("killed before its turn, what it put or took is not undone", """
            tank 0 5 0 = true
            process 0 1 0 = 0
            body 0: take 0 2
            process 0 1 0 = 1
            body 1: put 0 3
            activate 0 0 = true
            activate 1 0 = true
            run 2 0 = 2
            state 0 = 1
            level 0 = 1
            kill 0 = true
            level 0 = 1
            next = -1
            """);
        Script.check("entered for now: after those of now with a lesser priority number, before all later", """
            process 1 1 0 = 0
            body 0: take 0 1
            process 1 1 0 = 1
            body 1: put 0 1
            process 0 1 0 = 2
            process 0 1 0 = 3
            activate 0 0 = true
            activate 1 4 = true
            run 1 0 = 1
            run 1 4 = 1
            activate 2 0 = true
            activate 3 1 = true
            run 3 9 = 3
            traced 2 = 2
            traced 1 = 16
            traced 0 = 3
            """);
    }

    private static void fullAndEmpty() {
        Script.check("an empty line: an event leaves the tanks as they are", """
            tank 0 5 3 = true
            process 0 1 0 = 0
            activate 0 0 = true
            waiting 4 = 0
            run 1 0 = 1
            waiting 4 = 0
            level 0 = 3
            """);
        String takers = "";
        String states = "";
        for (int p = 0; p < 11; p++) {
            takers += "process 0 1 0 = " + p + "\nbody " + p + ": take 0 " + (p + 1) + "\nactivate " + p + " 0 = true\n";
            states += "state " + p + " = " + (p < 9 ? 1 : 5) + "\n";
        }
        Script.check("eleven wait and the twelfth puts what nine of them take", takers + """
            run 100 0 = 11
            waiting 4 = 11
            stuck = true
            process 0 1 0 = 11
            body 11: put 0 45
            activate 11 0 = true
            stuck = false
            run 1 0 = 1
            level 0 = 0
            waiting 4 = 2
            """ + states);
        String all = "";
        for (int p = 0; p < 12; p++) {
            all += "process 0 1 1 = " + p + "\nbody " + p + ": take 0 1\nactivate " + p + " 0 = true\n";
        }
        Script.check("all twelve wait; one is broken off, and its event lets the others go on", all + """
            run 100 0 = 12
            waiting 4 = 12
            stuck = true
            tank 0 1000 11 = true
            run 100 0 = 0
            waiting 4 = 12
            interrupt 11 = true
            waiting 4 = 11
            run 1 0 = 1
            waiting 4 = 0
            level 0 = 0
            state 11 = 6
            run 100 0 = 11
            traced 0 = 26
            traced 10 = 16
            """);
    }
}
