public final class P13PlaceTest {
    public static void main(String[] args) {
        Script.check("the instruction that it does next", """
            place 0 = -1
            process 0 2 0 = 0
            place 0 = 0
            body 0: put 0 1, hold 1, take 0 2, hold 1
            activate 0 0 = true
            place 0 = 0
            run 1 0 = 1
            place 0 = 2
            run 1 1 = 1
            place 0 = 3           # behind the take, in which it waits
            tank 0 10 2 = true
            process 0 1 0 = 1
            activate 1 0 = true
            run 2 1 = 2
            place 0 = 4
            run 1 2 = 1
            place 0 = 2           # the second round
            run 1 3 = 1
            tank 0 10 2 = true
            process 0 1 0 = 2
            activate 2 0 = true
            run 2 3 = 2
            run 1 4 = 1
            state 0 = 6
            place 0 = 4
            place 3 = -1
            place -1 = -1
            place 12 = -1
            place 2147483647 = -1
            """);
        Script.check("a place of 10: behind a body of ten, and by a handler", """
            process 0 1 0 = 0
            body 0: put 0 1, put 0 1, put 0 1, put 0 1, put 0 1, put 0 1, put 0 1, put 0 1, put 0 1, passivate
            process 0 1 10 = 1
            body 1: passivate
            activate 0 0 = true
            activate 1 0 = true
            run 2 0 = 2
            place 0 = 10
            place 1 = 1
            interrupt 1 = true
            place 1 = 10
            kill 1 = true
            place 1 = 10
            """);
        Script.check("the place behind the last instruction stays until the next turn, also before another round", """
            process 0 2 0 = 0
            body 0: hold 3
            activate 0 0 = true
            run 1 0 = 1
            place 0 = 1
            run 1 3 = 1
            traced 0 = 16
            place 0 = 1
            state 0 = 2
            """);
        Script.end();
    }
}
