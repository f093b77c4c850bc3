public final class P04ResourceTest {
    public static void main(String[] args) {
        Script.check("edges and wrong inputs", """
            resource 0 0 false = true
            free 0 = 0
            resource 3 9 true = true
            free 3 = 9
            refused: resource -1 1 false; resource 4 1 false; resource 0 -1 false; resource 0 10 false
            refused: resource 2147483647 1 true; resource 3 -2147483648 true; resource 3 2147483647 false
            free 3 = 9
            """);
        Script.check("what is seized stays seized", """
            resource 0 5 false = true
            process 0 1 0 = 0
            body 0: seize 0 3, passivate
            activate 0 0 = true
            run 1 0 = 1
            free 0 = 2
            refused: resource 0 2 true; resource 0 0 false
            resource 0 3 false = true
            free 0 = 0
            held 0 0 = 3
            resource 0 9 false = true
            free 0 = 6
            """);
        Script.check("a refused call does not change whether it preempts", """
            process 1 1 0 = 0
            body 0: seize 0 1, passivate
            activate 0 0 = true
            run 1 0 = 1
            refused: resource 0 0 true; resource 0 10 true
            process 0 1 0 = 1
            body 1: seize 0 1
            activate 1 0 = true
            run 1 0 = 1
            state 1 = 4
            """);
        Script.check("the line is served as far as the units go, and no further", """
            resource 2 0 false = true
            process 0 1 0 = 0
            body 0: seize 2 2
            process 0 1 0 = 1
            body 1: seize 2 3
            process 0 1 0 = 2
            body 2: seize 2 1
            activate 0 0 = true
            activate 1 1 = true
            activate 2 2 = true
            run 9 10 = 3
            waiting 2 = 3
            stuck = true
            resource 2 4 false = true
            waiting 2 = 2
            held 0 2 = 2
            held 1 2 = 0
            held 2 2 = 0
            free 2 = 2
            state 0 = 1
            state 2 = 4
            next = 10
            waited 2 = 10
            resource 2 6 false = true
            waiting 2 = 0
            free 2 = 0
            held 1 2 = 3
            held 2 2 = 1
            waited 2 = 27
            run 9 10 = 3
            traced 2 = 16
            traced 1 = 17
            traced 0 = 18
            """);
        Script.check("preempts from now on, or no more; the line itself takes nothing by force", """
            process 1 1 5 = 0
            body 0: seize 0 1, passivate
            process 0 1 0 = 1
            body 1: seize 0 1, passivate
            process -1 1 0 = 2
            body 2: seize 0 1, passivate
            process -2 1 0 = 3
            body 3: seize 0 1, passivate
            activate 0 0 = true
            activate 1 1 = true
            run 9 1 = 2
            resource 0 1 true = true
            held 1 0 = 0
            state 1 = 4
            activate 2 0 = true
            run 1 1 = 1
            held 2 0 = 1
            held 0 0 = 0
            state 0 = 1
            resource 0 1 false = true
            activate 3 0 = true
            run 9 1 = 2
            held 2 0 = 1
            state 3 = 4
            waiting 0 = 2
            """);
        Script.check("as many units as are seized, one fewer, one more", """
            resource 1 9 false = true
            process 0 1 0 = 0
            body 0: seize 1 4, passivate
            activate 0 0 = true
            run 1 0 = 1
            refused: resource 1 3 true
            free 1 = 5
            resource 1 4 true = true
            free 1 = 0
            resource 1 5 true = true
            free 1 = 1
            """);
        Script.check("what those who are over have seized counts", """
            process 0 1 0 = 0
            body 0: seize 0 1
            process 0 1 0 = 1
            body 1: seize 1 1, passivate
            activate 0 0 = true
            activate 1 0 = true
            run 2 0 = 2
            kill 1 = true
            refused: resource 0 0 false; resource 1 0 false
            resource 0 1 false = true
            """);
        Script.check("no unit at all, with an empty line and with one in it", """
            resource 0 0 false = true
            free 0 = 0
            process 0 1 0 = 0
            body 0: seize 0 1
            activate 0 0 = true
            run 1 0 = 1
            resource 0 0 true = true
            free 0 = 0
            waiting 0 = 1
            state 0 = 4
            next = -1
            """);
        Script.check("a refused call does not serve the line", """
            resource 0 0 false = true
            process 0 1 0 = 0
            body 0: seize 0 1
            activate 0 0 = true
            run 1 0 = 1
            refused: resource 0 10 false; resource 4 1 false; resource -1 1 false
            state 0 = 4
            """);
        Script.check("the line of that resource is served, and no other", """
            resource 0 0 false = true
            resource 1 0 false = true
            process 0 1 0 = 0
            body 0: seize 0 1
            process 0 1 0 = 1
            body 1: seize 1 1
            activate 0 0 = true
            activate 1 0 = true
            run 2 0 = 2
            resource 1 9 false = true
            state 0 = 4
            state 1 = 1
            waiting 0 = 1
            waiting 1 = 0
            """);
        Script.end();
    }
}
