public final class P03InstructTest {
    public static void main(String[] args) {
        Script.check("the edges of a and b", """
            process 0 1 0 = 0
            body 0: hold 0, hold 1000000, seize 0 1, seize 3 9, release 0 1, release 3 9
            process 0 1 0 = 1
            body 1: put 0 1, put 3 1000, take 0 1, take 3 1000, join 0, join 11
            process 0 1 0 = 2
            body 2: wake 0, wake 11, break 0, break 11, kill 0, kill 11
            """);
        Script.check("what is not named is not looked at", """
            process 0 1 0 = 0
            instruct 0 0 1 -7 = true
            instruct 0 1 -7 2147483647 = true
            instruct 0 6 1 -2147483648 = true
            instruct 0 7 1 1001 = true
            instruct 0 8 1 -1 = true
            instruct 0 9 1 1000000 = true
            """);
        Script.check("wrong op", """
            process 0 1 0 = 0
            refused: instruct 0 -1 0 1; instruct 0 10 0 1; instruct 0 2147483647 0 1; instruct 0 -2147483648 0 1
            """);
        Script.check("wrong process", """
            refused: instruct 0 1 0 0
            process 0 1 0 = 0
            refused: instruct -1 1 0 0; instruct 1 1 0 0; instruct 12 1 0 0; instruct 2147483647 1 0 0
            """);
        Script.check("wrong a or b", """
            process 0 1 0 = 0
            refused: instruct 0 0 -1 0; instruct 0 0 1000001 0
            refused: instruct 0 2 -1 1; instruct 0 2 4 1; instruct 0 2 0 0; instruct 0 2 0 10; instruct 0 2 0 -1
            refused: instruct 0 3 -1 1; instruct 0 3 4 1; instruct 0 3 0 0; instruct 0 3 0 10; instruct 0 3 0 -1
            refused: instruct 0 4 -1 1; instruct 0 4 4 1; instruct 0 4 0 0; instruct 0 4 0 1001; instruct 0 4 0 -1
            refused: instruct 0 5 -1 1; instruct 0 5 4 1; instruct 0 5 0 0; instruct 0 5 0 1001; instruct 0 5 0 -1
            refused: instruct 0 6 -1 0; instruct 0 6 12 0; instruct 0 7 -1 0; instruct 0 7 12 0
            """);
        Script.check("wrong a of BREAK and KILL, and nothing was appended", """
            process 0 1 0 = 0
            refused: instruct 0 8 -1 0; instruct 0 8 12 0; instruct 0 9 -1 0; instruct 0 9 12 0
            activate 0 0 = true
            run 9 0 = 1
            state 0 = 6
            place 0 = 0
            """);
        Script.check("ten instructions at most", """
            process 0 1 0 = 0
            process 0 1 0 = 1
            body 0: hold 1, hold 1, hold 1, hold 1, hold 1, hold 1, hold 1, hold 1, hold 1
            instruct 0 0 1 0 = true
            refused: instruct 0 0 1 0
            body 1: hold 5
            activate 0 0 = true
            run 100 100 = 11
            place 0 = 10
            now = 100
            """);
        Script.check("only while NEW", """
            process 0 1 0 = 0
            body 0: hold 5, passivate
            activate 0 0 = true
            refused: instruct 0 1 0 0
            run 1 0 = 1
            refused: instruct 0 1 0 0
            run 1 5 = 1
            state 0 = 3
            refused: instruct 0 1 0 0
            """);
        Script.check("not when QUEUED, WAITING, ENDED or KILLED", """
            resource 0 0 false = true
            process 0 1 0 = 0
            body 0: seize 0 1
            process 0 1 0 = 1
            body 1: take 0 1
            process 0 1 0 = 2
            process 0 1 0 = 3
            activate 0 0 = true
            activate 1 0 = true
            activate 2 0 = true
            run 9 0 = 3
            kill 3 = true
            instruct 0 1 0 0 = false
            instruct 1 1 0 0 = false
            instruct 2 1 0 0 = false
            instruct 3 1 0 0 = false
            """);
        Script.check("HOLD and PASSIVATE", """
            process 0 1 0 = 0
            body 0: hold 0, hold 7, passivate, hold 1000000
            activate 0 3 = true
            run 1 9 = 1
            state 0 = 2
            place 0 = 1
            next = 3
            run 1 9 = 1
            next = 10
            place 0 = 2
            run 1 20 = 1
            state 0 = 3
            place 0 = 3
            next = -1
            activate 0 0 = true
            run 1 20 = 1
            next = 1000010
            state 0 = 2
            """);
        Script.check("a process may be named before it is made, or never", """
            process 0 1 0 = 0
            body 0: wake 1, break 5, kill 5, wake 5, join 5, join 1
            process 0 1 0 = 1
            body 1: hold 4
            activate 0 0 = true
            run 1 0 = 1
            state 1 = 1
            state 0 = 5
            place 0 = 6
            run 9 9 = 3
            state 0 = 6
            """);
        Script.check("a resource or tank may be named that is changed later", """
            process 0 1 0 = 0
            body 0: seize 3 9, put 3 1000, take 2 1000
            tank 2 10 0 = true
            resource 3 9 false = true
            tank 2 1000 1000 = true
            activate 0 0 = true
            run 1 0 = 1
            state 0 = 6
            held 0 3 = 9
            level 3 = 1000
            level 2 = 0
            """);
        Script.check("a body of none, while NEW, may grow after other processes were made and ran", """
            process 0 1 0 = 0
            process 0 1 0 = 1
            activate 1 0 = true
            run 1 0 = 1
            body 0: put 0 7
            activate 0 0 = true
            run 1 0 = 1
            level 0 = 7
            """);
        Script.check("the eleventh is refused and is not done", """
            process 0 1 0 = 0
            body 0: put 0 1, put 0 1, put 0 1, put 0 1, put 0 1, put 0 1, put 0 1, put 0 1, put 0 1, put 0 1
            refused: instruct 0 4 0 100; instruct 0 0 0 0; instruct 0 9 11 0
            activate 0 0 = true
            run 1 0 = 1
            level 0 = 10
            place 0 = 10
            state 0 = 6
            """);
        Script.check("refused once READY, HOLDING or PASSIVE, and not done", """
            process 0 1 0 = 0
            body 0: hold 1, passivate
            activate 0 0 = true
            refused: instruct 0 4 0 1
            run 1 0 = 1
            refused: instruct 0 4 0 1
            run 1 1 = 1
            refused: instruct 0 4 0 1
            activate 0 0 = true
            run 1 1 = 1
            level 0 = 0
            place 0 = 2
            state 0 = 6
            """);
        Script.end();
    }
}
