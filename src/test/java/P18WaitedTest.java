public final class P18WaitedTest {
    public static void main(String[] args) {
        Script.check("those who got units from the line, and they alone", """
            process 0 1 0 = 0
            body 0: seize 0 1, hold 10, release 0 1
            process 0 1 5 = 1
            body 1: seize 0 1
            process 0 1 0 = 2
            body 2: seize 0 1
            process 0 1 0 = 3
            body 3: seize 0 1, passivate, release 0 1
            process 0 1 0 = 4
            body 4: seize 0 1
            activate 0 0 = true
            activate 1 1 = true
            activate 2 2 = true
            activate 3 3 = true
            activate 4 4 = true
            run 9 5 = 5
            waiting 0 = 4
            interrupt 1 = true
            kill 2 = true
            waited 0 = 0
            waiting 0 = 2
            run 2 10 = 2
            waited 0 = 7
            held 3 0 = 1
            run 1 10 = 1
            run 1 30 = 0
            waited 0 = 7
            activate 3 0 = true
            run 1 30 = 1
            waited 0 = 33
            waited 1 = 0
            waited 2 = 0
            waited 3 = 0
            """);
        Script.check("wrong inputs", """
            waited -1 = -1
            waited 4 = -1
            waited 2147483647 = -1
            waited -2147483648 = -1
            """);
        Script.check("who got its units at once was in no line, and who got them at the same time waited 0", """
            resource 0 2 false = true
            process 0 1 0 = 0
            body 0: seize 0 2, hold 0, release 0 2
            process 0 1 0 = 1
            body 1: seize 0 1, passivate
            run 1 5 = 0
            activate 0 0 = true
            activate 1 0 = true
            run 2 5 = 2
            waiting 0 = 1
            run 1 5 = 1
            held 1 0 = 1
            waited 0 = 0
            """);
        Script.check("twelve who waited from 0 to the latest time", twelveWait());
        Script.check("who still waits does not count yet", """
            process 0 1 0 = 0
            body 0: seize 1 2
            activate 0 0 = true
            run 2 77 = 1
            waited 1 = 0
            resource 1 2 false = true
            waited 1 = 77
            run 1 77 = 1
            run 1 100 = 0
            waited 1 = 77
            """);
        Script.check("each resource has its own", """
            resource 0 0 false = true
            resource 3 0 false = true
            process 0 1 0 = 0
            body 0: seize 0 1, seize 3 1
            activate 0 1 = true
            run 2 3 = 1
            resource 0 1 false = true
            run 1 3 = 1
            run 1 9 = 0
            resource 3 1 false = true
            waited 0 = 2
            waited 3 = 6
            waited 1 = 0
            waited 2 = 0
            """);
        Script.end();
    }

    private static String twelveWait() {
        String text = "resource 2 0 false = true\n";
        for (int p = 0; p < 12; p++) {
            text += "process 0 1 0 = " + p + "\nbody " + p + ": seize 2 1, release 2 1\nactivate " + p + " 0 = true\n";
        }
        return text + """
            run 12 0 = 12
            waiting 2 = 12
            run 1 1000000000000 = 0
            resource 2 1 false = true
            waited 2 = 1000000000000
            run 100 1000000000000 = 12
            waited 2 = 12000000000000
            """;
    }
}
