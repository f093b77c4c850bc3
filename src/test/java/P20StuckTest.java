public final class P20StuckTest {
    public static void main(String[] args) {
        for (int i = 0; i < 4; i++) {
            Script.check("one QUEUED for " + i + ", and an empty list", """
                stuck = false
                resource R 0 false = true
                process 0 1 0 = 0
                body 0: seize R 1, hold 1
                process 0 1 0 = 1
                body 1: hold 5
                activate 0 0 = true
                activate 1 0 = true
                stuck = false
                run 2 0 = 2
                stuck = false
                run 1 5 = 1
                stuck = true
                resource R 1 false = true
                stuck = false
                run 9 50 = 2
                stuck = false
                """.replace("R", "" + i));
        }
        Script.check("one WAITING, and an empty list", """
            process 0 1 0 = 0
            body 0: take 0 1
            activate 0 0 = true
            run 1 0 = 1
            stuck = true
            kill 0 = true
            stuck = false
            """);
        Script.check("PASSIVE, NEW, ENDED and KILLED ones are not stuck", """
            process 0 1 0 = 0
            body 0: passivate
            process 0 1 0 = 1
            process 0 1 0 = 2
            process 0 1 0 = 3
            activate 0 0 = true
            activate 1 0 = true
            kill 2 = true
            run 2 0 = 2
            stuck = false
            """);
        Script.check("an entry far away is an entry", """
            process 0 1 0 = 0
            body 0: take 0 1
            process 0 1 0 = 1
            activate 0 0 = true
            activate 1 1000000 = true
            run 1 0 = 1
            state 0 = 5
            stuck = false
            run 1 1000000 = 1
            stuck = true
            """);
        Script.check("one QUEUED and one WAITING; then none", """
            resource 0 0 false = true
            process 0 1 0 = 0
            body 0: seize 0 1
            process 0 1 0 = 1
            body 1: join 1
            activate 0 0 = true
            activate 1 0 = true
            run 2 0 = 2
            stuck = true
            kill 0 = true
            stuck = true
            kill 1 = true
            stuck = false
            """);
        Script.check("an empty list and nobody at all, or all over", """
            stuck = false
            run 1 10 = 0
            stuck = false
            process 0 1 0 = 0
            activate 0 0 = true
            stuck = false
            run 1 10 = 1
            stuck = false
            """);
        Script.end();
    }
}
