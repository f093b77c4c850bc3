public final class P11NextTest {
    public static void main(String[] args) {
        Script.check("the least time in the list", """
            next = -1
            process 4 1 0 = 0
            process -4 1 0 = 1
            process 0 1 0 = 2
            next = -1
            activate 1 8 = true
            next = 8
            activate 0 3 = true
            next = 3
            activate 2 5 = true
            next = 3
            run 1 100 = 1
            next = 5
            kill 2 = true
            next = 8
            run 1 100 = 1
            next = -1
            """);
        Script.check("0 is a time like others", """
            process 0 1 0 = 0
            activate 0 0 = true
            next = 0
            """);
        Script.check("the list is empty though processes are PASSIVE, QUEUED or WAITING", """
            process 0 1 0 = 0
            body 0: passivate
            process 0 1 0 = 1
            body 1: seize 0 2
            process 0 1 0 = 2
            body 2: take 0 1
            activate 0 0 = true
            activate 1 0 = true
            activate 2 0 = true
            next = 0
            run 3 0 = 3
            next = -1
            """);
        Script.check("the last entry leaves by interrupt and comes anew, or by kill", """
            process 0 1 10 = 0
            body 0: hold 7
            activate 0 0 = true
            run 1 0 = 1
            next = 7
            interrupt 0 = true
            next = 0
            kill 0 = true
            next = -1
            """);
        Script.end();
    }
}
