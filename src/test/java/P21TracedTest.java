public final class P21TracedTest {
    public static void main(String[] args) {
        Script.check("process and place when the turn began", """
            traced 0 = -1
            process 0 1 0 = 0
            process 0 2 10 = 1
            body 1: passivate, hold 1
            activate 1 0 = true
            traced 0 = -1
            run 1 0 = 1
            traced 0 = 1
            traced 1 = -1
            interrupt 1 = true
            run 1 0 = 1
            traced 0 = 161
            traced 1 = 1
            activate 1 0 = true
            activate 0 0 = true
            run 2 0 = 2
            traced 0 = 0
            traced 1 = 17
            traced 2 = 161
            traced 3 = 1
            traced 4 = -1
            traced -1 = -1
            traced 64 = -1
            traced 2147483647 = -1
            traced -2147483648 = -1
            """);
        Script.check("the latest sixty-four", """
            process 0 9 0 = 0
            body 0: hold 1, hold 1, hold 1, hold 1, hold 1, hold 1, hold 1
            process 0 1 0 = 1
            activate 1 0 = true
            activate 0 0 = true
            run 63 100 = 63
            traced 62 = 1
            traced 61 = 0
            traced 63 = -1
            run 1 100 = 1
            traced 63 = 1
            traced 64 = -1
            run 1 100 = 1
            traced 63 = 0
            traced 62 = 16
            traced 0 = 112
            traced 1 = 96
            traced 64 = -1
            traced -1 = -1
            state 0 = 6
            """);
        Script.check("far more than sixty-four", """
            process 0 9 0 = 0
            body 0: hold 1, hold 1, hold 1, hold 1, hold 1, hold 1, hold 1, hold 1, hold 1, hold 1
            process 1 9 0 = 1
            body 1: hold 1, hold 1, hold 1, hold 1, hold 1, hold 1, hold 1, hold 1, hold 1, hold 1
            activate 0 0 = true
            activate 1 0 = true
            run 100 1000 = 100
            run 81 1000 = 81
            traced 0 = 160
            traced 1 = 145
            traced 2 = 144
            traced 62 = 144
            traced 63 = 129
            """);
        Script.check("none yet, the latest, and one more than there were", """
            traced 0 = -1
            traced 63 = -1
            process 0 1 0 = 0
            activate 0 0 = true
            traced 0 = -1
            run 1 0 = 1
            traced 0 = 0
            traced 1 = -1
            traced 63 = -1
            """);
        Script.check("the greatest row: process 11 at place 10", """
            process 0 1 0 = 0
            process 0 1 0 = 1
            process 0 1 0 = 2
            process 0 1 0 = 3
            process 0 1 0 = 4
            process 0 1 0 = 5
            process 0 1 0 = 6
            process 0 1 0 = 7
            process 0 1 0 = 8
            process 0 1 0 = 9
            process 0 1 0 = 10
            process 0 1 10 = 11
            body 11: passivate
            activate 11 0 = true
            run 1 0 = 1
            traced 0 = 11
            interrupt 11 = true
            run 1 0 = 1
            traced 0 = 171
            traced 1 = 11
            """);
        Script.check("the place when the turn began, not where it ended or in which round", """
            process 0 3 0 = 0
            body 0: put 0 1, passivate, put 0 1
            activate 0 0 = true
            run 1 0 = 1
            activate 0 0 = true
            run 1 0 = 1
            traced 0 = 32
            place 0 = 2
            """);
        Script.check("what is no event is not traced: calls from outside, refused runs, runs of none", """
            process 0 1 10 = 0
            body 0: passivate
            activate 0 0 = true
            run 1 0 = 1
            interrupt 0 = true
            run 0 0 = 0
            refused: run 101 0; run 1 -1
            kill 0 = true
            run 5 5 = 0
            traced 0 = 0
            traced 1 = -1
            """);
        Script.end();
    }
}
