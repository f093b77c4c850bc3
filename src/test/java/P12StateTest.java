public final class P12StateTest {
    public static void main(String[] args) {
        Script.check("every state", """
            state 0 = -1
            resource 0 0 false = true
            process 0 1 1 = 0
            state 0 = 0
            body 0: hold 1, passivate, seize 0 1, take 0 1
            activate 0 0 = true
            state 0 = 1
            run 1 0 = 1
            state 0 = 2
            run 1 1 = 1
            state 0 = 3
            activate 0 0 = true
            run 1 1 = 1
            state 0 = 4
            resource 0 1 false = true
            state 0 = 1
            run 1 1 = 1
            state 0 = 5
            tank 0 1 1 = true
            process 0 1 0 = 1
            activate 1 0 = true
            run 1 1 = 1
            state 0 = 1
            run 1 1 = 1
            state 0 = 6
            state 1 = 6
            process 0 1 0 = 2
            kill 2 = true
            state 2 = 7
            state 3 = -1
            state -1 = -1
            state 12 = -1
            state 2147483647 = -1
            state -2147483648 = -1
            """);
        Script.check("a process that is entered by HOLD is READY in its next turn", """
            process 0 1 0 = 0
            body 0: hold 1, break 0, wake 0, take 0 1
            activate 0 0 = true
            run 2 1 = 2
            state 0 = 5
            place 0 = 4
            """);
        Script.end();
    }
}
