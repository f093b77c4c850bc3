public final class P19LevelTest {
    public static void main(String[] args) {
        Script.check("each tank has its own level", """
            process 0 1 0 = 0
            body 0: put 0 1, put 1 20, put 2 300, put 3 1000, take 2 299, take 1 20
            activate 0 0 = true
            run 1 0 = 1
            level 0 = 1
            level 1 = 0
            level 2 = 1
            level 3 = 1000
            level -1 = -1
            level 4 = -1
            level 2147483647 = -1
            level -2147483648 = -1
            """);
        Script.check("0, and as much as the capacity", """
            level 0 = 0
            tank 0 1000 1000 = true
            level 0 = 1000
            process 0 1 0 = 0
            body 0: take 0 1000, passivate, put 0 1000
            activate 0 0 = true
            run 1 0 = 1
            level 0 = 0
            activate 0 0 = true
            run 1 0 = 1
            level 0 = 1000
            """);
        Script.check("what one waits to put or take is not in it", """
            tank 0 10 4 = true
            process 0 1 0 = 0
            body 0: put 0 7
            process 0 1 0 = 1
            body 1: take 0 5
            activate 0 0 = true
            activate 1 0 = true
            run 2 0 = 2
            level 0 = 4
            """);
        Script.end();
    }
}
