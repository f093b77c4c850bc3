public final class P09RunTest {
    public static void main(String[] args) {
        Script.check("wrong inputs and edges", """
            process 0 1 0 = 0
            activate 0 5 = true
            refused: run -1 10; run 101 10; run 1 -1; run 1 1000000000001; run 0 -1; run 0 1000000000001
            refused: run 2147483647 10; run 1 9223372036854775807; run 1 -9223372036854775808; run 101 -1
            run 0 1000000000000 = 0
            now = 0               # not fewer than none were made
            next = 5
            run 100 4 = 0
            now = 4
            refused: run 1 3; run 0 3
            run 1 4 = 0
            run 1 5 = 1
            now = 5
            run 1 5 = 0
            run 100 1000000000000 = 0
            now = 1000000000000
            run 1 1000000000000 = 0
            refused: run 1 999999999999
            """);
        Script.check("up to n events; the clock is that of the last one when n were made", """
            process 0 1 0 = 0
            body 0: hold 2, hold 3, hold 4
            activate 0 1 = true
            run 2 100 = 2
            now = 3
            next = 6
            run 1 6 = 1
            now = 6
            run 2 12 = 1
            now = 12
            state 0 = 6
            """);
        Script.check("the last hold goes beyond the latest time", """
            process 0 1 0 = 0
            body 0: passivate, hold 1000000
            activate 0 0 = true
            run 2 1000000000000 = 1
            activate 0 0 = true
            run 2 1000000000000 = 1
            next = 1000001000000
            run 2 1000000000000 = 0
            state 0 = 2
            """);
        Script.check("a hundred events in one call", """
            process 0 9 0 = 0
            body 0: hold 1, hold 1, hold 1, hold 1, hold 1, hold 1, hold 1, hold 1, hold 1, hold 1
            process 0 9 0 = 1
            body 1: hold 1, hold 1, hold 1, hold 1, hold 1, hold 1, hold 1, hold 1, hold 1, hold 1
            activate 0 0 = true
            activate 1 0 = true
            run 100 1000 = 100
            now = 49
            run 100 1000 = 82
            now = 1000
            state 0 = 6
            state 1 = 6
            """);
        Script.check("the first entry: least time, then least priority number, then first entered", """
            process 1 1 0 = 0
            body 0: hold 2
            process 0 1 0 = 1
            body 1: hold 5
            process 1 1 0 = 2
            body 2: hold 0, hold 1
            process 0 1 0 = 3
            activate 0 3 = true
            activate 1 0 = true
            activate 2 4 = true
            activate 3 5 = true
            run 3 4 = 3           # 1 at 0, 0 at 3, 2 at 4
            traced 2 = 1
            traced 1 = 0
            traced 0 = 2
            run 1 4 = 1           # 2 at 4 again
            traced 0 = 18
            run 4 5 = 4           # all at 5: 3 and 1 by priority, 3 entered first; then 0, then 2
            traced 3 = 3
            traced 2 = 17
            traced 1 = 16
            traced 0 = 34
            """);
        Script.check("an entry at until is made, one just after it is not", """
            process 0 1 0 = 0
            process 0 1 0 = 1
            process 0 1 0 = 2
            activate 0 9 = true
            activate 1 10 = true
            activate 2 11 = true
            run 100 10 = 2
            now = 10
            state 1 = 6
            state 2 = 1
            next = 11
            """);
        Script.check("just as many as n: the clock stays at the last of them, though none is left", """
            process 0 1 0 = 0
            process 0 1 0 = 1
            activate 0 3 = true
            activate 1 5 = true
            run 2 100 = 2
            now = 5
            next = -1
            run 1 100 = 0
            now = 100
            """);
        Script.check("n is 0: none is made, though one is due, and the clock stays", """
            process 0 1 0 = 0
            activate 0 0 = true
            run 0 0 = 0
            run 0 100 = 0
            now = 0
            state 0 = 1
            next = 0
            traced 0 = -1
            """);
        Script.check("until is the clock's time: the events of now", """
            run 1 8 = 0
            process 0 1 0 = 0
            body 0: hold 0, hold 0, hold 1
            activate 0 0 = true
            run 100 8 = 3
            now = 8
            next = 9
            refused: run 100 7; run 1 0; run 0 7
            """);
        Script.check("the clock becomes until also when later entries are there", """
            process 0 1 0 = 0
            activate 0 10 = true
            run 1 9 = 0
            now = 9
            next = 10
            run 1 10 = 1
            now = 10
            """);
        Script.check("events that are made in the same call count", """
            process 0 1 0 = 0
            body 0: wake 1, hold 2, wake 2
            process 0 1 0 = 1
            process 0 1 0 = 2
            activate 0 0 = true
            run 100 2 = 4
            now = 2
            """);
        Script.end();
    }
}
