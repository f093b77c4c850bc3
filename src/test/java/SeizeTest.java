/** SEIZE and the order of lines, which promises 4, 7, 8, 14 to 18 rest on. */
public final class SeizeTest {
    public static void main(String[] args) {
        Script.check("who is of lesser number than all of the line goes by it", """
            resource 0 3 false = true
            process 0 1 0 = 0
            body 0: seize 0 2, passivate
            process 1 1 0 = 1
            body 1: seize 0 2, passivate
            process 1 1 0 = 2
            body 2: seize 0 1, passivate
            process 0 1 0 = 3
            body 3: seize 0 1, passivate
            activate 0 0 = true
            activate 1 0 = true
            run 2 0 = 2
            state 1 = 4
            activate 2 0 = true
            run 1 0 = 1
            state 2 = 4           # of equal number: behind it, though a unit is free
            free 0 = 1
            activate 3 0 = true
            run 1 0 = 1
            state 3 = 3
            held 3 0 = 1
            waiting 0 = 2
            waited 0 = 0
            """);
        Script.check("units are taken by force, the greatest numbers first, no more than are needed", """
            resource 0 9 true = true
            process 1 1 1 = 0
            body 0: seize 0 2, passivate
            process 2 1 1 = 1
            body 1: seize 0 3, passivate
            process 2 1 1 = 2
            body 2: seize 0 2, passivate
            process 0 1 1 = 3
            body 3: seize 0 1, passivate
            process 0 1 1 = 4
            body 4: seize 0 5, passivate
            activate 0 0 = true
            activate 1 1 = true
            activate 2 2 = true
            activate 3 3 = true
            activate 4 4 = true
            run 5 4 = 5
            held 0 0 = 2
            held 1 0 = 0
            held 2 0 = 0
            held 3 0 = 1
            held 4 0 = 5
            free 0 = 1
            state 0 = 3
            state 1 = 1
            state 2 = 1
            state 4 = 3
            place 1 = 1
            run 2 4 = 2
            traced 1 = 18         # 2 lost before 1 did
            traced 0 = 17
            """);
        Script.check("nothing is taken where all of it would be too little", """
            resource 0 4 true = true
            process 0 1 0 = 0
            body 0: seize 0 2, passivate
            process 1 1 0 = 1
            body 1: seize 0 1, passivate
            process 0 1 0 = 2
            body 2: seize 0 3, passivate
            activate 0 0 = true
            activate 1 1 = true
            activate 2 2 = true
            run 3 2 = 3
            state 2 = 4
            held 1 0 = 1
            state 1 = 3
            free 0 = 1
            """);
        Script.check("nothing is taken from an equal or from a lesser number, or from oneself", """
            resource 0 1 true = true
            process 0 1 0 = 0
            body 0: seize 0 1, passivate
            process 0 1 0 = 1
            body 1: seize 0 1
            process 1 1 0 = 2
            body 2: seize 0 1
            activate 0 0 = true
            activate 1 0 = true
            activate 2 0 = true
            run 3 0 = 3
            held 0 0 = 1
            waiting 0 = 2
            activate 0 0 = true
            run 1 0 = 1
            state 0 = 6
            waiting 0 = 2
            """);
        Script.check("nothing is taken where one of the line is before it", """
            resource 0 2 true = true
            process 0 1 0 = 0
            body 0: seize 0 1, passivate
            process 2 1 0 = 1
            body 1: seize 0 1, passivate
            process 0 1 0 = 2
            body 2: seize 0 3, passivate
            process 0 1 0 = 3
            body 3: seize 0 1, passivate
            activate 0 0 = true
            activate 1 0 = true
            activate 2 1 = true
            activate 3 2 = true
            run 4 2 = 4
            state 2 = 4
            state 3 = 4
            held 1 0 = 1
            """);
        Script.check("ended, killed and ready ones lose their units too, but are not interrupted", """
            resource 0 3 true = true
            process 1 1 0 = 0
            body 0: seize 0 1
            process 1 1 0 = 1
            body 1: seize 0 1, passivate
            process 1 1 0 = 2
            body 2: seize 0 1, passivate, hold 9
            process 0 1 0 = 3
            body 3: seize 0 3
            activate 0 0 = true
            activate 1 0 = true
            activate 2 0 = true
            run 3 0 = 3
            kill 1 = true
            activate 2 1 = true
            activate 3 0 = true
            run 1 0 = 1
            held 0 0 = 0
            held 1 0 = 0
            held 2 0 = 0
            held 3 0 = 3
            state 0 = 6
            state 1 = 7
            state 2 = 1
            place 2 = 2
            next = 1
            """);
        Script.check("a loser in another line leaves it, and that line is served", """
            resource 0 1 true = true
            resource 1 2 false = true
            process 1 1 5 = 0
            body 0: seize 0 1, seize 1 2, passivate
            process 2 1 0 = 1
            body 1: seize 1 1, passivate
            process 2 1 0 = 2
            body 2: seize 1 1, passivate
            process 0 1 0 = 3
            body 3: seize 0 1, passivate
            activate 1 0 = true
            activate 0 1 = true
            activate 2 2 = true
            activate 3 3 = true
            run 4 3 = 4
            state 0 = 1
            place 0 = 5
            held 0 0 = 0
            held 3 0 = 1
            held 2 1 = 1
            waiting 1 = 0
            waited 1 = 1
            """);
        Script.check("units left over go to the line after the interrupts", """
            resource 0 3 true = true
            process 2 1 2 = 0
            body 0: seize 0 3, passivate
            process 3 1 0 = 1
            body 1: seize 0 2, passivate
            process 0 1 0 = 2
            body 2: seize 0 1, passivate
            activate 0 0 = true
            activate 1 1 = true
            activate 2 5 = true
            run 3 5 = 3
            held 2 0 = 1
            held 1 0 = 2
            held 0 0 = 0
            waited 0 = 4
            state 0 = 1
            place 0 = 2
            state 1 = 1
            run 2 5 = 2
            traced 1 = 32
            traced 0 = 17
            """);
        Script.check("a loser loses all that it has, also what it seized in parts", """
            resource 0 4 true = true
            process 3 1 5 = 0
            body 0: seize 0 2, passivate
            process 3 1 5 = 1
            body 1: seize 0 2, seize 0 2, passivate
            process 0 1 0 = 2
            body 2: seize 0 2, passivate
            activate 1 0 = true
            activate 0 0 = true
            run 2 0 = 2
            held 1 0 = 4
            state 0 = 4
            activate 2 2 = true
            run 1 2 = 1
            held 1 0 = 0
            held 2 0 = 2
            held 0 0 = 2
            waited 0 = 2
            state 1 = 1
            place 1 = 5
            state 0 = 1
            place 0 = 1
            """);
        Script.check("a loser that the line serves while another is interrupted is not interrupted itself", """
            resource 0 5 false = true
            process 2 1 5 = 0
            body 0: seize 0 2, hold 1, seize 0 1, passivate
            process 3 1 5 = 1
            body 1: seize 0 3, hold 2, seize 0 1, passivate
            process 0 1 5 = 2
            body 2: seize 0 4, passivate
            activate 0 0 = true
            activate 1 0 = true
            run 4 2 = 4
            waiting 0 = 2
            resource 0 5 true = true
            activate 2 1 = true
            run 1 3 = 1           # both lose; 1 is interrupted first, and then the line gives 0 its unit
            held 2 0 = 4
            held 0 0 = 1
            held 1 0 = 0
            state 0 = 1
            place 0 = 3
            state 1 = 1
            place 1 = 5
            waited 0 = 2
            run 2 3 = 2
            state 0 = 3
            state 1 = 6
            """);
        Script.check("a loser that another resource's line serves while another is interrupted is not interrupted", """
            resource 0 2 true = true
            process 2 1 5 = 0
            body 0: seize 0 1, hold 1, seize 1 1, passivate
            process 2 1 5 = 1
            body 1: seize 0 1, seize 1 2, passivate
            process 0 1 0 = 2
            body 2: seize 0 2, passivate
            activate 0 0 = true
            activate 1 0 = true
            run 3 1 = 3
            waiting 1 = 2
            free 1 = 1
            activate 2 1 = true
            run 1 2 = 1           # both lose; 1 is interrupted first, and then the line of 1 gives 0 its unit
            held 2 0 = 2
            held 0 0 = 0
            held 0 1 = 1
            waiting 1 = 0
            waited 1 = 1
            state 0 = 1
            place 0 = 3
            state 1 = 1
            place 1 = 5
            run 2 2 = 2
            traced 1 = 81
            traced 0 = 48
            state 0 = 3
            state 1 = 6
            """);
        Script.check("the process goes on in its turn after it took by force", """
            resource 0 1 true = true
            process 1 1 1 = 0
            body 0: seize 0 1, hold 100
            process 0 1 0 = 1
            body 1: seize 0 1, put 0 7, release 0 1, hold 3
            activate 0 0 = true
            activate 1 5 = true
            run 2 5 = 2
            level 0 = 7
            state 1 = 2
            place 1 = 4
            free 0 = 1
            state 0 = 1
            place 0 = 1
            next = 5
            """);
        Script.check("when just enough is free, nobody else loses", """
            resource 0 4 true = true
            process 1 1 0 = 0
            body 0: seize 0 2, passivate
            process 2 1 0 = 1
            body 1: seize 0 2, passivate
            process 0 1 0 = 2
            body 2: seize 0 2, passivate
            activate 0 0 = true
            activate 1 0 = true
            activate 2 1 = true
            run 3 1 = 3
            held 0 0 = 2
            held 1 0 = 0
            held 2 0 = 2
            state 0 = 3
            state 1 = 1
            """);
        Script.check("twelve processes, of which the last and the first lose", """
            resource 3 9 true = true
            process 1 1 5 = 0
            body 0: seize 3 4, passivate
            process 0 1 5 = 1
            body 1: seize 3 9, passivate
            process 0 1 5 = 2
            process 0 1 5 = 3
            process 0 1 5 = 4
            process 0 1 5 = 5
            process 0 1 5 = 6
            process 0 1 5 = 7
            process 0 1 5 = 8
            process 0 1 5 = 9
            process 0 1 5 = 10
            process 1 1 5 = 11
            body 11: seize 3 5, passivate
            activate 0 0 = true
            activate 11 0 = true
            activate 1 1 = true
            run 3 1 = 3
            held 1 3 = 9
            held 0 3 = 0
            held 11 3 = 0
            run 2 1 = 2
            traced 1 = 91
            traced 0 = 80
            """);
        Script.check("more than the capacity is waited for", """
            resource 0 3 true = true
            process 0 1 0 = 0
            body 0: seize 0 4
            activate 0 0 = true
            run 1 0 = 1
            state 0 = 4
            free 0 = 3
            stuck = true
            """);
        Script.check("none of the line is before it, and b units are free: those behind do not matter", """
            resource 0 2 false = true
            process 1 1 0 = 0
            body 0: seize 0 9
            process 0 1 0 = 1
            body 1: seize 0 2, put 0 1
            activate 0 0 = true
            activate 1 0 = true
            run 1 0 = 1
            traced 0 = 1
            run 1 0 = 1
            state 0 = 4
            free 0 = 0
            held 1 0 = 2
            level 0 = 1
            """);
        Script.check("one of equal number is before it: QUEUED, though b units are free and more could be had", """
            resource 0 3 true = true
            process 1 1 0 = 0
            body 0: seize 0 1, passivate
            process 0 1 0 = 1
            body 1: seize 0 4
            process 0 1 0 = 2
            body 2: seize 0 1
            activate 0 0 = true
            run 1 0 = 1
            activate 1 0 = true
            run 1 0 = 1
            activate 2 0 = true
            run 1 0 = 1
            state 1 = 4
            state 2 = 4
            free 0 = 2
            held 0 0 = 1
            state 0 = 3
            """);
        Script.check("one of greater number in the line: units are taken by force all the same", """
            resource 0 1 true = true
            process 1 1 10 = 0
            body 0: seize 0 1, passivate
            process 1 1 10 = 1
            body 1: seize 0 1
            process 0 1 0 = 2
            body 2: seize 0 1, passivate
            activate 0 0 = true
            activate 1 0 = true
            run 2 0 = 2
            state 1 = 4
            activate 2 0 = true
            run 1 0 = 1
            held 2 0 = 1
            held 0 0 = 0
            state 0 = 1
            state 1 = 4
            waiting 0 = 1
            """);
        Script.check("it does not preempt: QUEUED before those of greater number", """
            resource 0 1 false = true
            process 4 1 0 = 0
            body 0: seize 0 1, passivate, release 0 1
            process 1 1 0 = 1
            body 1: seize 0 1
            process 0 1 0 = 2
            body 2: seize 0 1
            activate 0 0 = true
            run 1 0 = 1
            activate 1 0 = true
            run 1 0 = 1
            activate 2 0 = true
            run 1 0 = 1
            state 2 = 4
            held 0 0 = 1
            activate 0 0 = true
            run 1 0 = 1
            held 2 0 = 1
            state 1 = 4
            """);
        Script.check("all units of all nine losers, one each", nineLosers());
        Script.check("the greatest priority number loses before the greatest process number", """
            resource 0 6 true = true
            process 4 1 7 = 0
            body 0: seize 0 2, passivate
            process 1 1 7 = 1
            body 1: seize 0 2, passivate
            process 2 1 7 = 2
            body 2: seize 0 2, passivate
            process 0 1 0 = 3
            body 3: seize 0 2, passivate, seize 0 2, passivate, seize 0 2, passivate
            activate 0 0 = true
            activate 1 0 = true
            activate 2 0 = true
            run 3 0 = 3
            activate 3 0 = true
            run 1 0 = 1
            held 0 0 = 0
            held 1 0 = 2
            held 2 0 = 2
            activate 3 0 = true
            run 1 0 = 1
            held 1 0 = 2
            held 2 0 = 0
            activate 3 0 = true
            run 1 0 = 1
            held 1 0 = 0
            held 3 0 = 6
            """);
        Script.check("of equal priority numbers the greatest process number loses first", """
            resource 0 3 true = true
            process 1 1 7 = 0
            body 0: seize 0 1, passivate
            process 1 1 7 = 1
            body 1: seize 0 1, passivate
            process 1 1 7 = 2
            body 2: seize 0 1, passivate
            process 0 3 0 = 3
            body 3: seize 0 1, passivate
            activate 2 0 = true
            activate 0 0 = true
            activate 1 0 = true
            run 3 0 = 3
            activate 3 0 = true
            run 1 0 = 1
            held 2 0 = 0
            held 1 0 = 1
            held 0 0 = 1
            activate 3 0 = true
            run 1 0 = 1
            traced 0 = 35
            held 1 0 = 0
            held 0 0 = 1
            """);
        Script.check("first those who lost are entered, then those whom the line serves", """
            resource 0 3 true = true
            process 2 1 10 = 0
            body 0: seize 0 3, passivate
            process 2 1 10 = 1
            body 1: seize 0 2, passivate
            process 0 1 0 = 2
            body 2: seize 0 1, passivate
            activate 0 0 = true
            activate 1 0 = true
            run 2 0 = 2
            activate 2 0 = true
            run 1 0 = 1
            state 0 = 1
            state 1 = 1
            run 2 0 = 2
            traced 1 = 160
            traced 0 = 17
            """);
        Script.check("it gets its units before those who lost are broken off and their line is served", """
            resource 0 4 true = true
            process 2 1 10 = 0
            body 0: seize 0 2, seize 0 4
            process 2 1 10 = 1
            body 1: seize 0 2, passivate
            process 3 1 10 = 2
            body 2: seize 0 1
            process 0 1 0 = 3
            body 3: seize 0 4, passivate
            activate 1 0 = true
            activate 0 0 = true
            activate 2 0 = true
            run 3 0 = 3
            waiting 0 = 2
            activate 3 0 = true
            run 1 0 = 1
            held 3 0 = 4
            waiting 0 = 1
            state 2 = 4
            held 2 0 = 0
            """);
        Script.check("its own units are not counted and are not lost", """
            resource 0 3 true = true
            process 1 1 10 = 0
            body 0: seize 0 1, passivate
            process 0 1 0 = 1
            body 1: seize 0 2, seize 0 1, passivate, seize 0 1
            activate 0 0 = true
            activate 1 0 = true
            run 1 0 = 1
            traced 0 = 1
            held 1 0 = 3
            run 1 0 = 1
            state 0 = 4
            activate 1 0 = true
            run 1 0 = 1
            state 1 = 4
            held 1 0 = 3
            free 0 = 0
            waiting 0 = 2
            """);
        Script.check("a loser that HOLDs, one that is PASSIVE, one that WAITS: each is broken off", """
            resource 0 3 true = true
            process 1 1 7 = 0
            body 0: seize 0 1, hold 9
            process 1 1 8 = 1
            body 1: seize 0 1, passivate
            process 1 1 9 = 2
            body 2: seize 0 1, take 0 1
            process 0 1 0 = 3
            body 3: seize 0 3
            activate 0 0 = true
            activate 1 0 = true
            activate 2 0 = true
            run 3 0 = 3
            activate 3 5 = true
            run 1 5 = 1
            state 0 = 1
            place 0 = 7
            state 1 = 1
            place 1 = 8
            state 2 = 1
            place 2 = 9
            waiting 4 = 0
            next = 5
            run 3 5 = 3
            traced 2 = 146
            traced 1 = 129
            traced 0 = 112
            """);
        Script.check("who has units of other resources alone does not lose them", """
            resource 0 1 true = true
            resource 1 1 true = true
            process 1 1 7 = 0
            body 0: seize 0 1, passivate
            process 2 1 7 = 1
            body 1: seize 1 1, passivate
            process 0 1 0 = 2
            body 2: seize 0 1, passivate
            activate 0 0 = true
            activate 1 0 = true
            run 2 0 = 2
            activate 2 0 = true
            run 1 0 = 1
            held 0 0 = 0
            state 0 = 1
            held 1 1 = 1
            state 1 = 3
            """);
        Script.check("a loser that waits in the line of that resource leaves it, and no longer wants anything", """
            resource 0 2 true = true
            process 1 1 10 = 0
            body 0: seize 0 1, seize 0 2
            process 0 1 0 = 1
            body 1: seize 0 2, passivate
            activate 0 0 = true
            run 1 0 = 1
            state 0 = 4
            activate 1 3 = true
            run 1 3 = 1
            waiting 0 = 0
            state 0 = 1
            place 0 = 10
            held 0 0 = 0
            held 1 0 = 2
            waited 0 = 0
            """);
        Script.end();
    }

    /** Nine processes have a unit each; the tenth takes all of them. */
    private static String nineLosers() {
        String text = "resource 1 9 true = true\n";
        for (int p = 0; p < 9; p++) {
            text += "process " + (1 + p % 4) + " 1 10 = " + p + "\nbody " + p + ": seize 1 1, passivate\n"
                    + "activate " + p + " 0 = true\n";
        }
        text += """
            run 9 0 = 9
            free 1 = 0
            process 0 1 0 = 9
            body 9: seize 1 9, passivate
            activate 9 0 = true
            run 1 0 = 1
            held 9 1 = 9
            free 1 = 0
            """;
        for (int p = 0; p < 9; p++) {
            text += "held " + p + " 1 = 0\nstate " + p + " = 1\nplace " + p + " = 10\n";
        }
        // Of equal time, by priority; of equal priority, as they were interrupted: the greatest number first.
        int[] order = {8, 4, 0, 5, 1, 6, 2, 7, 3};
        text += "run 9 0 = 9\n";
        for (int i = 0; i < 9; i++) {
            text += "traced " + (8 - i) + " = " + (order[i] + 160) + "\n";
        }
        return text;
    }
}
