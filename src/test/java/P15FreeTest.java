public final class P15FreeTest {
    public static void main(String[] args) {
        Script.check("capacity without what is seized", """
            resource 2 5 false = true
            process 0 1 0 = 0
            body 0: seize 2 2, hold 1, release 2 1, hold 1
            activate 0 0 = true
            free 2 = 5
            run 1 0 = 1
            free 2 = 3
            resource 2 9 false = true
            free 2 = 7
            run 1 1 = 1
            free 2 = 8
            run 1 2 = 1
            free 2 = 8
            free 0 = 1
            free 1 = 1
            free 3 = 1
            free -1 = -1
            free 4 = -1
            free 2147483647 = -1
            free -2147483648 = -1
            """);
        Script.check("none and all of them, of each resource", """
            resource 0 0 false = true
            resource 1 9 false = true
            resource 2 9 false = true
            process 0 1 0 = 0
            body 0: seize 2 9, seize 3 1, passivate, release 2 9, release 3 1
            activate 0 0 = true
            run 1 0 = 1
            free 0 = 0
            free 1 = 9
            free 2 = 0
            free 3 = 0
            activate 0 0 = true
            run 1 0 = 1
            free 2 = 9
            free 3 = 1
            """);
        Script.end();
    }
}
