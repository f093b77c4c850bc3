/** Terms: a resource, its line, and how that line is served. */
public final class TermsLinesTest {
    public static void main(String[] args) {
        capacity();
        order();
        served();
        left();
        full();
        Script.end();
    }

    private static void capacity() {
        Script.check("capacity 0: nobody gets a unit", """
            resource 0 0 true = true
            process -4 1 0 = 0
            body 0: seize 0 1
            activate 0 0 = true
            run 1 0 = 1
            free 0 = 0
            state 0 = 4
            stuck = true
            """);
        Script.check("capacity 9: all of it for one, and none for the next", """
            resource 0 9 false = true
            process 0 1 0 = 0
            body 0: seize 0 9, passivate, release 0 9
            process 0 1 0 = 1
            body 1: seize 0 9
            activate 0 0 = true
            activate 1 0 = true
            run 2 0 = 2
            held 0 0 = 9
            free 0 = 0
            state 1 = 4
            activate 0 0 = true
            run 1 0 = 1
            held 0 0 = 0
            held 1 0 = 9
            free 0 = 0
            """);
        Script.check("nine have a unit each, the tenth waits", """
            resource 0 9 false = true
            process 0 1 0 = 0
            body 0: seize 0 1
            process 0 1 0 = 1
            body 1: seize 0 1
            process 0 1 0 = 2
            body 2: seize 0 1
            process 0 1 0 = 3
            body 3: seize 0 1
            process 0 1 0 = 4
            body 4: seize 0 1
            process 0 1 0 = 5
            body 5: seize 0 1
            process 0 1 0 = 6
            body 6: seize 0 1
            process 0 1 0 = 7
            body 7: seize 0 1
            process 0 1 0 = 8
            body 8: seize 0 1
            process 0 1 0 = 9
            body 9: seize 0 1
            activate 0 0 = true
            activate 1 0 = true
            activate 2 0 = true
            activate 3 0 = true
            activate 4 0 = true
            activate 5 0 = true
            activate 6 0 = true
            activate 7 0 = true
            activate 8 0 = true
            run 9 0 = 9
            free 0 = 0
            held 8 0 = 1
            activate 9 0 = true
            run 1 0 = 1
            state 9 = 4
            """);
    }

    private static void order() {
        Script.check("one of equal number stands behind, one of lesser number before", """
            resource 0 0 false = true
            process 0 1 0 = 0
            body 0: seize 0 1
            process 0 1 0 = 1
            body 1: seize 0 1
            process -1 1 0 = 2
            body 2: seize 0 1
            process 1 1 0 = 3
            body 3: seize 0 1
            process 0 1 0 = 4
            body 4: seize 0 1
            activate 0 0 = true
            activate 1 1 = true
            activate 3 2 = true
            activate 4 3 = true
            activate 2 4 = true
            run 5 4 = 5
            resource 0 1 false = true
            held 2 0 = 1
            resource 0 2 false = true
            held 0 0 = 1
            resource 0 3 false = true
            held 1 0 = 1
            resource 0 4 false = true
            held 4 0 = 1
            resource 0 5 false = true
            held 3 0 = 1
            waiting 0 = 0
            """);
        Script.check("who comes again stands behind those of equal number who stayed", """
            resource 0 0 false = true
            process 0 1 0 = 0
            body 0: seize 0 1
            process 0 1 0 = 1
            body 1: seize 0 1
            activate 0 0 = true
            activate 1 0 = true
            run 2 0 = 2
            run 1 3 = 0
            interrupt 0 = true
            run 1 3 = 1
            waiting 0 = 2
            run 1 10 = 0
            resource 0 1 false = true
            held 1 0 = 1
            waited 0 = 10
            resource 0 2 false = true
            waited 0 = 17          # it counts from its second coming
            """);
    }

    private static void served() {
        Script.check("as many as the first wants are just free", """
            resource 0 3 false = true
            process 0 1 0 = 0
            body 0: seize 0 1, passivate
            process 0 1 0 = 1
            body 1: seize 0 3
            activate 0 0 = true
            activate 1 0 = true
            run 2 0 = 2
            free 0 = 2
            resource 0 4 false = true
            free 0 = 0
            held 1 0 = 3
            state 1 = 1
            """);
        Script.check("one fewer than the first wants: it is not served, nor is the next who wants fewer", """
            resource 0 0 false = true
            process 0 1 0 = 0
            body 0: seize 0 3
            process 0 1 0 = 1
            body 1: seize 0 1
            activate 0 0 = true
            activate 1 0 = true
            run 2 0 = 2
            resource 0 2 false = true
            free 0 = 2
            waiting 0 = 2
            state 0 = 4
            state 1 = 4
            """);
        Script.check("as long as there is enough: all of the line at once", """
            resource 0 0 false = true
            process 2 1 0 = 0
            body 0: seize 0 1
            process 1 1 0 = 1
            body 1: seize 0 2
            process 0 1 0 = 2
            body 2: seize 0 3
            activate 0 1 = true
            activate 1 2 = true
            activate 2 3 = true
            run 9 9 = 3
            resource 0 6 false = true
            waiting 0 = 0
            free 0 = 0
            waited 0 = 21
            next = 9
            state 0 = 1
            state 1 = 1
            state 2 = 1
            """);
        Script.check("an empty line is served: nothing happens", """
            resource 0 5 false = true
            process 0 1 0 = 0
            body 0: release 0 1
            activate 0 0 = true
            run 1 0 = 1
            free 0 = 5
            waiting 0 = 0
            next = -1
            """);
        Script.check("what the line gives can be more than it had for one: units from the line add up", """
            resource 0 2 false = true
            process 0 1 0 = 0
            body 0: seize 0 2, seize 0 3, passivate
            activate 0 0 = true
            run 1 0 = 1
            state 0 = 4
            held 0 0 = 2
            resource 0 5 false = true
            held 0 0 = 5
            free 0 = 0
            """);
    }

    private static void left() {
        for (String way : new String[] {"interrupt", "kill"}) {
            Script.check("the first leaves by " + way + ": the others are served", threeInLine() + """
                LEAVES 1 = true
                waiting 0 = 0
                held 1 0 = 0
                held 2 0 = 1
                held 3 0 = 1
                waited 0 = 0
                """.replace("LEAVES", way));
            Script.check("the middle one leaves by " + way + ": the first is in the way still", threeInLine() + """
                LEAVES 2 = true
                waiting 0 = 2
                free 0 = 2
                held 3 0 = 0
                LEAVES 1 = true
                held 3 0 = 1
                free 0 = 1
                """.replace("LEAVES", way));
            Script.check("the last leaves by " + way + ": nobody is served", threeInLine() + """
                LEAVES 3 = true
                waiting 0 = 2
                free 0 = 2
                state 1 = 4
                state 2 = 4
                """.replace("LEAVES", way));
            Script.check("the only one leaves by " + way + ": the line is empty", """
                process 0 1 10 = 0
                body 0: seize 0 2
                activate 0 0 = true
                run 1 0 = 1
                waiting 0 = 1
                LEAVES 0 = true
                waiting 0 = 0
                free 0 = 1
                stuck = false
                """.replace("LEAVES", way));
        }
    }

    /** Two units of resource 0 are free; 1 wants three of them, 2 and 3 want one each. */
    private static String threeInLine() {
        return """
            resource 0 3 false = true
            process 0 1 0 = 0
            body 0: seize 0 1, passivate
            process 0 1 10 = 1
            body 1: seize 0 3
            process 0 1 10 = 2
            body 2: seize 0 1
            process 0 1 10 = 3
            body 3: seize 0 1
            activate 0 0 = true
            activate 1 0 = true
            activate 2 0 = true
            activate 3 0 = true
            run 4 0 = 4
            waiting 0 = 3
            free 0 = 2
            """;
    }

    private static void full() {
        String all = "resource 2 0 false = true\n";
        String traced = "";
        for (int p = 0; p < 12; p++) {
            // Each has a lesser number than the one before it, as far as there are such numbers.
            int priority = Math.max(-4, 4 - p);
            all += "process " + priority + " 1 0 = " + p + "\nbody " + p + ": seize 2 1, release 2 1\nactivate "
                    + p + " " + p + " = true\n";
        }
        int[] order = {8, 9, 10, 11, 7, 6, 5, 4, 3, 2, 1, 0};
        for (int i = 0; i < 12; i++) {
            traced += "traced " + (11 - i) + " = " + (order[i] + 16) + "\n";
        }
        Script.check("all twelve in one line", all + """
            run 100 11 = 12
            waiting 2 = 12
            stuck = true
            free 2 = 0
            resource 2 1 false = true
            waiting 2 = 11
            stuck = false
            run 100 11 = 12
            waiting 2 = 0
            free 2 = 1
            waited 2 = 66
            """ + traced);
    }
}
