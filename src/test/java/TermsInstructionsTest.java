/** Terms: the instructions 0 to 9 at their edges (SEIZE has a test of its own). */
public final class TermsInstructionsTest {
    public static void main(String[] args) {
        holdAndPassivate();
        release();
        putAndTake();
        join();
        wake();
        breakOff();
        killOthers();
        killItself();
        Script.end();
    }

    private static void holdAndPassivate() {
        Script.check("HOLD 0: it is entered for now, and the turn ends", """
            process 0 1 0 = 0
            body 0: hold 0, put 0 1
            activate 0 0 = true
            run 1 0 = 1
            state 0 = 2
            next = 0
            level 0 = 0
            run 1 0 = 1
            level 0 = 1
            """);
        Script.check("HOLD 1000000", """
            process 0 1 0 = 0
            body 0: hold 1000000
            activate 0 0 = true
            run 1 0 = 1
            next = 1000000
            run 1 999999 = 0
            state 0 = 2
            run 1 1000000 = 1
            state 0 = 6
            """);
        Script.check("PASSIVATE: it is in no list and no line, and the turn ends", """
            process 0 1 0 = 0
            body 0: passivate, put 0 1
            activate 0 0 = true
            run 1 0 = 1
            state 0 = 3
            next = -1
            waiting 4 = 0
            stuck = false
            run 1 1000 = 0
            state 0 = 3
            level 0 = 0
            """);
    }

    private static void release() {
        Script.check("RELEASE of none: it has nothing, and nothing is given back", """
            process 0 1 0 = 0
            body 0: release 0 1, release 3 9
            activate 0 0 = true
            run 1 0 = 1
            state 0 = 6
            free 0 = 1
            free 3 = 1
            held 0 0 = 0
            """);
        Script.check("RELEASE of another's units gives nothing back", """
            process 0 1 0 = 0
            body 0: seize 0 1, passivate
            process 0 1 0 = 1
            body 1: release 0 1
            activate 0 0 = true
            activate 1 0 = true
            run 2 0 = 2
            held 0 0 = 1
            free 0 = 0
            """);
        Script.check("RELEASE of fewer, of as many, and of more than it has", """
            resource 0 9 false = true
            process 0 1 0 = 0
            body 0: seize 0 3, release 0 2, passivate, release 0 1, passivate, seize 0 3, release 0 4, passivate
            activate 0 0 = true
            run 1 0 = 1
            held 0 0 = 1
            free 0 = 8
            activate 0 0 = true
            run 1 0 = 1
            held 0 0 = 0
            free 0 = 9
            activate 0 0 = true
            run 1 0 = 1
            held 0 0 = 0
            free 0 = 9
            """);
        Script.check("the line of that resource is served, in the turn itself, and no other", """
            process 0 1 0 = 0
            body 0: seize 0 1, seize 1 1, passivate, release 0 1, put 0 1
            process 0 1 0 = 1
            body 1: seize 0 1
            process 0 1 0 = 2
            body 2: seize 1 1
            activate 0 0 = true
            activate 1 0 = true
            activate 2 0 = true
            run 3 0 = 3
            activate 0 0 = true
            run 1 0 = 1
            state 0 = 6
            level 0 = 1
            held 1 0 = 1
            state 1 = 1
            waiting 0 = 0
            waiting 1 = 1
            state 2 = 4
            """);
        Script.check("one who gives back can not have it again before the line", """
            process 0 1 0 = 0
            body 0: seize 0 1, passivate, release 0 1, seize 0 1
            process 4 1 0 = 1
            body 1: seize 0 1
            activate 0 0 = true
            activate 1 0 = true
            run 2 0 = 2
            activate 0 0 = true
            run 1 0 = 1
            held 1 0 = 1
            state 0 = 4
            """);
    }

    private static void putAndTake() {
        Script.check("PUT up to the capacity, and one more", """
            tank 0 5 4 = true
            process 0 1 0 = 0
            body 0: put 0 1, put 0 1
            activate 0 0 = true
            run 1 0 = 1
            level 0 = 5
            state 0 = 5
            place 0 = 2
            """);
        Script.check("PUT 1000 into an empty tank, and 1 into a full one", """
            process 0 1 0 = 0
            body 0: put 3 1000, put 3 1
            activate 0 0 = true
            run 1 0 = 1
            level 3 = 1000
            state 0 = 5
            waiting 4 = 1
            """);
        Script.check("PUT into a tank of capacity 0", """
            tank 1 0 0 = true
            process 0 1 0 = 0
            body 0: put 1 1
            activate 0 0 = true
            run 1 0 = 1
            level 1 = 0
            state 0 = 5
            """);
        Script.check("TAKE down to level 0, and one more", """
            tank 0 5 1 = true
            process 0 1 0 = 0
            body 0: take 0 1, take 0 1
            activate 0 0 = true
            run 1 0 = 1
            level 0 = 0
            state 0 = 5
            place 0 = 2
            """);
        Script.check("TAKE 1000 from a full tank, and from one that lacks 1", """
            tank 2 1000 1000 = true
            tank 3 1000 999 = true
            process 0 1 0 = 0
            body 0: take 2 1000, take 3 1000
            activate 0 0 = true
            run 1 0 = 1
            level 2 = 0
            level 3 = 999
            state 0 = 5
            """);
        Script.check("a part is neither put nor taken", """
            tank 0 10 7 = true
            process 0 1 0 = 0
            body 0: put 0 4
            process 0 1 0 = 1
            body 1: take 0 8
            activate 0 0 = true
            activate 1 0 = true
            run 2 0 = 2
            level 0 = 7
            waiting 4 = 2
            """);
        Script.check("where the condition holds the turn goes on, also past those who wait for the same tank", """
            tank 0 10 3 = true
            process 0 1 0 = 0
            body 0: take 0 5
            process 0 1 0 = 1
            body 1: take 0 3, put 0 1, hold 1
            activate 0 0 = true
            activate 1 0 = true
            run 2 0 = 2
            state 0 = 5
            state 1 = 2
            level 0 = 1
            """);
    }

    private static void join() {
        Script.check("JOIN: there is no process, the next or the twelfth", """
            process 0 1 0 = 0
            body 0: join 1, join 11
            activate 0 0 = true
            run 1 0 = 1
            state 0 = 6
            """);
        Script.check("JOIN: a process that is ENDED, and one that is KILLED", """
            process 0 1 0 = 0
            body 0: join 1, join 2
            process 0 1 0 = 1
            process 0 1 0 = 2
            activate 1 0 = true
            run 1 0 = 1
            kill 2 = true
            activate 0 0 = true
            run 1 0 = 1
            state 0 = 6
            """);
        String[] before = {"", "activate 1 5 = true", "activate 1 0 = true\nrun 1 0 = 1"};
        joinWaits("NEW", "hold 9", before[0], 0);
        joinWaits("READY", "hold 9", before[1], 1);
        joinWaits("HOLDING", "hold 9", before[2], 2);
        joinWaits("PASSIVE", "passivate", before[2], 3);
        joinWaits("QUEUED", "seize 0 9", before[2], 4);
        joinWaits("WAITING", "take 0 9", before[2], 5);
        Script.check("JOIN of itself waits until it is broken off", """
            process 0 1 1 = 0
            body 0: join 0, put 0 1
            activate 0 0 = true
            run 1 0 = 1
            state 0 = 5
            stuck = true
            interrupt 0 = true
            run 1 0 = 1
            state 0 = 6
            level 0 = 1
            """);
        Script.check("JOIN of the twelfth process, made after the instruction", """
            process 0 1 0 = 0
            body 0: join 11
            process 0 1 0 = 1
            process 0 1 0 = 2
            process 0 1 0 = 3
            process 0 1 0 = 4
            process 0 1 0 = 5
            process 0 1 0 = 6
            process 0 1 0 = 7
            process 0 1 0 = 8
            process 0 1 0 = 9
            process 0 1 0 = 10
            process 0 1 0 = 11
            activate 0 0 = true
            run 1 0 = 1
            state 0 = 5
            activate 11 0 = true
            run 1 0 = 1
            state 11 = 6
            state 0 = 1
            """);
    }

    private static void joinWaits(String state, String body, String before, int number) {
        Script.check("JOIN waits for one that is " + state, """
            process 0 1 0 = 0
            body 0: join 1
            process 0 1 0 = 1
            body 1: BODY
            BEFORE
            state 1 = NUMBER
            activate 0 0 = true
            run 1 0 = 1
            state 0 = 5
            kill 1 = true
            state 0 = 5
            process 0 1 0 = 2
            activate 2 0 = true
            run 1 0 = 1
            state 0 = 1
            """.replace("BODY", body).replace("BEFORE", before).replace("NUMBER", "" + number));
    }

    private static void wake() {
        Script.check("WAKE of a NEW and of a PASSIVE process; the turn goes on", """
            process 0 1 0 = 0
            body 0: wake 1, wake 2, put 0 1
            process 0 1 0 = 1
            process 0 1 0 = 2
            body 2: passivate, hold 3
            activate 2 0 = true
            run 1 0 = 1
            run 1 5 = 0
            activate 0 0 = true
            run 1 5 = 1
            level 0 = 1
            state 0 = 6
            state 1 = 1
            state 2 = 1
            place 2 = 1
            next = 5
            run 2 5 = 2
            traced 1 = 1
            traced 0 = 18
            """);
        Script.check("WAKE of others does nothing: no process, itself, READY, HOLDING", """
            process 0 1 0 = 0
            body 0: wake 11, wake 0, wake 1, wake 2, put 0 1
            process 0 1 0 = 1
            process 0 1 0 = 2
            body 2: hold 9
            activate 2 0 = true
            run 1 0 = 1
            activate 1 7 = true
            activate 0 0 = true
            run 1 0 = 1
            state 0 = 6
            level 0 = 1
            state 1 = 1
            state 2 = 2
            next = 7
            """);
        Script.check("WAKE of others does nothing: QUEUED, WAITING, ENDED, KILLED", """
            resource 0 0 false = true
            process 0 1 0 = 0
            body 0: wake 1, wake 2, wake 3, wake 4, put 0 1
            process 0 1 0 = 1
            body 1: seize 0 1
            process 0 1 0 = 2
            body 2: take 0 2
            process 0 1 0 = 3
            process 0 1 0 = 4
            activate 1 0 = true
            activate 2 0 = true
            activate 3 0 = true
            run 3 0 = 3
            kill 4 = true
            activate 0 0 = true
            run 1 0 = 1
            state 1 = 4
            state 2 = 5
            state 3 = 6
            state 4 = 7
            level 0 = 1
            next = -1
            """);
    }

    private static void breakOff() {
        Script.check("BREAK of a HOLDING, a PASSIVE, a QUEUED and a WAITING process; the turn goes on", """
            resource 0 0 false = true
            process 0 1 0 = 0
            body 0: break 4, break 3, break 2, break 1, put 0 1
            process 0 1 7 = 1
            body 1: hold 9
            process 0 1 8 = 2
            body 2: passivate
            process 0 1 9 = 3
            body 3: seize 0 1
            process 0 1 10 = 4
            body 4: take 0 2
            activate 1 0 = true
            activate 2 0 = true
            activate 3 0 = true
            activate 4 0 = true
            run 4 0 = 4
            activate 0 0 = true
            run 1 0 = 1
            level 0 = 1
            waiting 0 = 0
            waiting 4 = 0
            place 1 = 7
            place 2 = 8
            place 3 = 9
            place 4 = 10
            next = 0
            run 4 0 = 4
            traced 3 = 164
            traced 2 = 147
            traced 1 = 130
            traced 0 = 113
            """);
        Script.check("BREAK of others does nothing: no process, itself, NEW, READY, ENDED, KILLED", """
            process 0 1 7 = 0
            body 0: break 11, break 0, break 1, break 2, break 3, break 4, put 0 1
            process 0 1 7 = 1
            process 0 1 7 = 2
            process 0 1 7 = 3
            process 0 1 7 = 4
            activate 3 0 = true
            run 1 0 = 1
            activate 2 4 = true
            kill 4 = true
            activate 0 0 = true
            run 1 0 = 1
            level 0 = 1
            state 0 = 6
            place 0 = 7
            state 1 = 0
            place 1 = 0
            state 2 = 1
            place 2 = 0
            state 3 = 6
            place 3 = 0
            state 4 = 7
            place 4 = 0
            next = 4
            """);
        Script.check("BREAK of one in the line serves that line", """
            resource 0 1 false = true
            process 0 1 0 = 0
            body 0: break 1, put 0 1
            process -1 1 1 = 1
            body 1: seize 0 2
            process 0 1 0 = 2
            body 2: seize 0 1
            activate 1 0 = true
            activate 2 0 = true
            run 2 0 = 2
            waiting 0 = 2
            activate 0 0 = true
            run 1 0 = 1
            waiting 0 = 0
            held 2 0 = 1
            level 0 = 1
            """);
    }

    private static void killOthers() {
        Script.check("KILL of each state that is not over; the turn goes on", """
            resource 0 0 false = true
            process 0 1 0 = 0
            body 0: kill 1, kill 2, kill 3, kill 4, kill 5, kill 6, put 0 1
            process 0 1 0 = 1
            process 0 1 0 = 2
            process 0 1 0 = 3
            body 3: hold 9
            process 0 1 0 = 4
            body 4: passivate
            process 0 1 0 = 5
            body 5: seize 0 1
            process 0 1 0 = 6
            body 6: take 0 2
            activate 3 0 = true
            activate 4 0 = true
            activate 5 0 = true
            activate 6 0 = true
            run 4 0 = 4
            activate 2 8 = true
            activate 0 0 = true
            run 1 0 = 1
            level 0 = 1
            state 0 = 6
            state 1 = 7
            state 2 = 7
            state 3 = 7
            state 4 = 7
            state 5 = 7
            state 6 = 7
            next = -1
            waiting 0 = 0
            waiting 4 = 0
            """);
        Script.check("KILL of others does nothing: no process, ENDED, KILLED", """
            process 0 1 0 = 0
            body 0: kill 11, kill 1, kill 2, put 0 1
            process 0 1 0 = 1
            body 1: seize 0 1, hold 0
            process 0 1 0 = 2
            body 2: seize 1 1, passivate
            activate 1 0 = true
            activate 2 0 = true
            run 3 0 = 3
            kill 2 = true
            activate 0 0 = true
            run 1 0 = 1
            state 0 = 6
            level 0 = 1
            state 1 = 6
            state 2 = 7
            held 1 0 = 1
            held 2 1 = 1
            """);
        Script.check("KILL of another with units: its RELEASEs serve the lines in the killer's turn", """
            process 0 1 0 = 0
            body 0: kill 1, seize 0 1
            process 0 1 0 = 1
            body 1: seize 0 1, passivate, release 0 1
            process 4 1 0 = 2
            body 2: seize 0 1
            activate 1 0 = true
            activate 2 0 = true
            run 2 0 = 2
            activate 0 0 = true
            run 1 0 = 1
            held 2 0 = 1
            state 0 = 4
            """);
    }

    private static void killItself() {
        Script.check("the turn ends when the process killed itself", """
            process 0 9 0 = 0
            body 0: put 0 1, kill 0, put 0 1
            activate 0 0 = true
            run 1 0 = 1
            state 0 = 7
            place 0 = 2
            level 0 = 1
            next = -1
            run 1 10 = 0
            """);
        Script.check("a KILL of itself as the last instruction: the round is not over, nor is another begun", """
            process 0 2 0 = 0
            body 0: put 0 1, kill 0
            activate 0 0 = true
            run 1 0 = 1
            state 0 = 7
            place 0 = 2
            level 0 = 1
            """);
        Script.check("one that kills itself gives back in its RELEASEs", """
            resource 0 9 false = true
            process 0 1 0 = 0
            body 0: release 0 9, seize 0 5, kill 0, release 0 2, put 0 1, release 0 1
            process 0 1 0 = 1
            body 1: seize 0 7
            process 0 1 0 = 2
            body 2: join 0
            activate 2 0 = true
            run 1 0 = 1
            activate 0 0 = true
            run 1 0 = 1
            held 0 0 = 2
            free 0 = 7
            level 0 = 0
            state 2 = 1
            activate 1 0 = true
            run 2 0 = 2
            held 1 0 = 7
            """);
    }
}
