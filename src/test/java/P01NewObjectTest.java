public final class P01NewObjectTest {
    public static void main(String[] args) {
        Script.check("nothing has happened", """
            now = 0
            next = -1
            stuck = false
            traced 0 = -1
            state 0 = -1
            place 0 = -1
            held 0 0 = -1
            waiting 4 = 0
            """);
        for (int i = 0; i < 4; i++) {
            Script.check("resource " + i + " has one free unit and does not preempt", """
                free R = 1
                waiting R = 0
                area R = 0
                waited R = 0
                process 1 1 0 = 0
                body 0: seize R 1, passivate
                process 0 1 0 = 1
                body 1: seize R 1
                process 0 1 0 = 2
                body 2: seize R 2
                activate 0 0 = true
                activate 1 1 = true
                activate 2 2 = true
                run 9 5 = 3
                free R = 0
                held 0 R = 1
                state 1 = 4
                state 2 = 4
                """.replace("R", "" + i));
            Script.check("tank " + i + " has capacity 1000 and level 0", """
                level T = 0
                process 0 1 0 = 0
                body 0: take T 1
                process 0 1 0 = 1
                body 1: put T 1000, put T 1
                activate 0 0 = true
                run 9 0 = 1
                state 0 = 5
                kill 0 = true
                activate 1 0 = true
                run 9 0 = 1
                level T = 1000
                state 1 = 5
                """.replace("T", "" + i));
        }
        Script.check("no process: none of the twelve numbers", """
            state 0 = -1
            state 11 = -1
            place 11 = -1
            held 11 3 = -1
            refused: instruct 0 1 0 0; activate 0 0; interrupt 0; kill 0
            refused: instruct 11 1 0 0; activate 11 0; interrupt 11; kill 11
            process 0 1 0 = 0
            """);
        Script.check("the clock is 0, which is a time until which it can run", """
            now = 0
            run 0 0 = 0
            run 100 0 = 0
            now = 0
            """);
        Script.end();
    }
}
