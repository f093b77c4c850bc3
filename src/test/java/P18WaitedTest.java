public final class P18WaitedTest {
    public static void main(String[] args) {
        Script.check("those who got units from the line, and they alone", """
            process 0 1 0 = 0
            body 0: seize 0 1, hold 10, release 0 1
            process 0 1 5 = 1
            body 1: seize 0 1
            process 0 1 0 = 2
            body 2: seize 0 1
            process 0 1 0 = 3
            body 3: seize 0 1, passivate, release 0 1
            process 0 1 0 = 4
            body 4: seize 0 1
            activate 0 0 = true
            activate 1 1 = true
            activate 2 2 = true
            activate 3 3 = true
            activate 4 4 = true
            run 9 5 = 5
            waiting 0 = 4
            interrupt 1 = true
            kill 2 = true
            waited 0 = 0
            waiting 0 = 2
            run 2 10 = 2
            waited 0 = 7
            held 3 0 = 1
            run 1 10 = 1
            run 1 30 = 0
            waited 0 = 7
            activate 3 0 = true
            run 1 30 = 1
            waited 0 = 33
            waited 1 = 0
            waited 2 = 0
            waited 3 = 0
            """);
        Script.check("wrong inputs", """
            waited -1 = -1
            waited 4 = -1
            waited 2147483647 = -1
            waited -2147483648 = -1
            """);
        Script.end();
    }
}
