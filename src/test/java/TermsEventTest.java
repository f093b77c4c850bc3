/** Terms: the clock, the event list and its first entry, an event. */
public final class TermsEventTest {
    public static void main(String[] args) {
        firstEntry();
        emptyList();
        insertionNumbers();
        event();
        Script.end();
    }

    private static void firstEntry() {
        Script.check("the least time goes before the least priority number", """
            process 4 1 0 = 0
            process -4 1 0 = 1
            activate 1 6 = true
            activate 0 5 = true
            next = 5
            run 1 9 = 1
            traced 0 = 0
            now = 5
            """);
        Script.check("the least priority number goes before the least insertion number", """
            process 1 1 0 = 0
            process 0 1 0 = 1
            process -1 1 0 = 2
            activate 0 5 = true
            activate 1 5 = true
            activate 2 5 = true
            run 3 5 = 3
            traced 2 = 2
            traced 1 = 1
            traced 0 = 0
            """);
        Script.check("the least insertion number goes before the least process number", """
            process 0 1 0 = 0
            process 0 1 0 = 1
            process 0 1 0 = 2
            activate 2 5 = true
            activate 1 5 = true
            activate 0 5 = true
            run 3 5 = 3
            traced 2 = 2
            traced 1 = 1
            traced 0 = 0
            """);
        for (long edge : new long[] {2147483648L, 4294967296L, 6442450944L, 999999999999L}) {
            Script.check("times about " + edge + ", beyond what an int can hold", """
                process 0 1 0 = 0
                process 0 1 0 = 1
                process 0 1 0 = 2
                run 1 BEFORE = 0
                activate 2 2 = true
                activate 1 1 = true
                activate 0 0 = true
                next = BEFORE
                run 1 BEFORE = 1
                traced 0 = 0
                next = EDGE
                run 1 EDGE = 1
                traced 0 = 1
                now = EDGE
                next = AFTER
                run 1 AFTER = 1
                traced 0 = 2
                """.replace("BEFORE", "" + (edge - 1)).replace("EDGE", "" + edge).replace("AFTER", "" + (edge + 1)));
        }
        Script.check("twelve entries at one time", """
            process 0 1 0 = 0
            process 0 1 0 = 1
            process 0 1 0 = 2
            process 0 1 0 = 3
            process 0 1 0 = 4
            process 0 1 0 = 5
            process 0 1 0 = 6
            process 0 1 0 = 7
            process 0 1 0 = 8
            process 0 1 0 = 9
            process 0 1 0 = 10
            process -1 1 0 = 11
            activate 7 1 = true
            activate 0 1 = true
            activate 11 1 = true
            activate 3 1 = true
            activate 10 1 = true
            activate 1 1 = true
            activate 9 1 = true
            activate 2 1 = true
            activate 8 1 = true
            activate 4 1 = true
            activate 6 1 = true
            activate 5 1 = true
            run 100 1 = 12
            traced 11 = 11
            traced 10 = 7
            traced 9 = 0
            traced 8 = 3
            traced 7 = 10
            traced 6 = 1
            traced 5 = 9
            traced 4 = 2
            traced 3 = 8
            traced 2 = 4
            traced 1 = 6
            traced 0 = 5
            """);
    }

    private static void emptyList() {
        Script.check("an empty event list: no first entry, no event", """
            next = -1
            run 100 0 = 0
            run 100 7 = 0
            now = 7
            next = -1
            stuck = false
            traced 0 = -1
            process 0 1 0 = 0
            next = -1
            run 1 7 = 0
            state 0 = 0
            """);
        Script.check("the only entry leaves the list", """
            process 0 1 0 = 0
            activate 0 3 = true
            run 1 3 = 1
            next = -1
            run 1 3 = 0
            """);
    }

    private static void insertionNumbers() {
        Script.check("HOLD 0 enters it anew, behind those who are entered for the same time", """
            process 0 1 0 = 0
            body 0: hold 0
            process 0 1 0 = 1
            body 1: hold 0
            activate 0 0 = true
            activate 1 0 = true
            run 4 0 = 4
            traced 3 = 0
            traced 2 = 1
            traced 1 = 16
            traced 0 = 17
            """);
        Script.check("who is interrupted is entered anew, behind the others of that time", """
            process 0 1 1 = 0
            body 0: hold 5
            process 0 1 0 = 1
            activate 0 0 = true
            run 1 0 = 1
            run 1 4 = 0
            activate 1 0 = true
            interrupt 0 = true
            run 2 4 = 2
            traced 1 = 1
            traced 0 = 16
            """);
        Script.check("one who holds longer but was entered before goes first", """
            process 0 1 0 = 0
            body 0: hold 10
            process 0 1 0 = 1
            activate 0 0 = true
            run 1 4 = 1
            run 1 9 = 0
            activate 1 1 = true
            run 1 10 = 1
            traced 0 = 16
            """);
        Script.check("a line that is served enters its members in its order", """
            resource 0 0 false = true
            process 1 1 0 = 0
            body 0: seize 0 1, hold 0
            process 1 1 0 = 1
            body 1: seize 0 1, hold 0
            activate 1 0 = true
            activate 0 0 = true
            run 2 0 = 2
            resource 0 2 false = true
            run 4 0 = 4
            traced 3 = 17
            traced 2 = 16
            traced 1 = 33
            traced 0 = 32
            """);
    }

    private static void event() {
        Script.check("the clock becomes the time of the entry", """
            now = 0
            process 0 1 0 = 0
            body 0: hold 0, hold 1, hold 1000000
            activate 0 0 = true
            run 1 5 = 1
            now = 0
            run 1 5 = 1
            now = 0
            run 1 5 = 1
            now = 1
            run 1 1000001 = 1
            now = 1000001
            """);
        Script.check("the process becomes READY, so that it can not be woken or broken off in its turn", """
            process 0 1 3 = 0
            body 0: hold 2, wake 0, break 0, put 0 1
            activate 0 0 = true
            run 2 2 = 2
            level 0 = 1
            state 0 = 6
            place 0 = 4
            """);
        Script.check("the line of conditions is gone over after every event, not at the end of run alone", """
            process 0 1 0 = 0
            body 0: take 0 1, put 1 1
            process 0 1 0 = 1
            body 1: put 0 1
            process 0 1 0 = 2
            body 2: take 0 1
            activate 0 0 = true
            activate 1 1 = true
            activate 2 2 = true
            run 100 2 = 4
            traced 3 = 0
            traced 2 = 1
            traced 1 = 16
            traced 0 = 2
            state 2 = 5
            state 0 = 6
            """);
        Script.check("it is gone over after the turn, not in it", """
            process 0 1 0 = 0
            body 0: take 0 1
            process 0 1 0 = 1
            body 1: put 0 1, take 0 1
            activate 0 0 = true
            activate 1 0 = true
            run 2 0 = 2
            state 0 = 5
            state 1 = 6
            """);
        Script.check("it is gone over also after the event in which one came into it", """
            process 0 1 0 = 0
            body 0: take 0 1
            process 0 1 0 = 1
            body 1: put 0 1, put 0 1000, put 0 999
            activate 0 0 = true
            activate 1 0 = true
            run 2 0 = 2
            state 0 = 1
            state 1 = 1            # once the first of the line has taken its 1, all 1000 can be put
            level 0 = 1000
            """);
    }
}
