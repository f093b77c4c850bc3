public final class P14HeldTest {
    public static void main(String[] args) {
        Script.check("seized in parts, given back in parts", """
            resource 0 9 false = true
            resource 3 2 false = true
            process 0 1 0 = 0
            body 0: seize 0 2, seize 0 3, seize 3 2, hold 1, release 0 4, hold 1, release 0 4, release 0 1, release 2 9
            process 0 1 0 = 1
            body 1: seize 0 4, hold 5, release 0 4
            activate 0 0 = true
            activate 1 0 = true
            run 2 0 = 2
            held 0 0 = 5
            held 0 1 = 0
            held 0 2 = 0
            held 0 3 = 2
            held 1 0 = 4
            free 0 = 0
            run 1 1 = 1
            held 0 0 = 1
            run 1 2 = 1
            held 0 0 = 0          # all that it has, if these are fewer
            held 1 0 = 4
            free 0 = 5
            free 2 = 1
            state 0 = 6
            held 0 3 = 2
            run 1 5 = 1
            held 1 0 = 0
            free 0 = 9
            """);
        Script.check("wrong inputs", """
            held 0 0 = -1
            process 0 1 0 = 0
            held 0 -1 = -1
            held 0 4 = -1
            held -1 0 = -1
            held 1 0 = -1
            held 12 0 = -1
            held 0 2147483647 = -1
            held -2147483648 0 = -1
            held 0 3 = 0
            """);
        Script.check("none, and all nine", """
            resource 1 9 false = true
            process 0 1 0 = 0
            body 0: seize 1 9, passivate, release 1 9
            process 0 1 0 = 1
            activate 0 0 = true
            held 0 1 = 0
            run 1 0 = 1
            held 0 1 = 9
            held 1 1 = 0
            activate 0 0 = true
            run 1 0 = 1
            held 0 1 = 0
            """);
        Script.check("one who is in the line has none of what it wants", """
            resource 0 3 false = true
            process 0 1 0 = 0
            body 0: seize 0 2, seize 0 2
            activate 0 0 = true
            run 1 0 = 1
            state 0 = 4
            held 0 0 = 2
            free 0 = 1
            """);
        Script.end();
    }
}
