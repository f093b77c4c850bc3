public final class P17AreaTest {
    public static void main(String[] args) {
        Script.check("units times the time for which they were seized", """
            resource 1 9 false = true
            process 0 1 0 = 0
            body 0: hold 3, seize 1 4, hold 5, release 1 1, hold 2, release 1 9
            activate 0 0 = true
            run 2 3 = 2
            area 1 = 0
            run 1 4 = 0
            area 1 = 4
            run 1 8 = 1
            area 1 = 20
            resource 1 3 false = true
            run 1 9 = 0
            area 1 = 23
            run 1 10 = 1
            area 1 = 26
            run 1 1000 = 0
            area 1 = 26
            area 0 = 0
            area 2 = 0
            area 3 = 0
            """);
        Script.check("a very long time", """
            resource 0 9 false = true
            process 0 1 0 = 0
            body 0: seize 0 9
            activate 0 0 = true
            run 1 0 = 1
            run 1 1000000000000 = 0
            area 0 = 9000000000000
            """);
        Script.check("units given on in the line go on counting", """
            process 0 1 0 = 0
            body 0: seize 0 1, hold 4, release 0 1
            process 0 1 0 = 1
            body 1: seize 0 1, hold 4, release 0 1
            activate 0 0 = true
            activate 1 0 = true
            run 9 20 = 5
            area 0 = 8
            """);
        Script.check("wrong inputs", """
            area -1 = -1
            area 4 = -1
            area 2147483647 = -1
            area -2147483648 = -1
            """);
        Script.check("no time, and one unit for one time", """
            process 0 1 0 = 0
            body 0: seize 0 1, release 0 1, seize 0 1, hold 1, release 0 1
            activate 0 0 = true
            run 1 0 = 1
            area 0 = 0
            run 0 1 = 0
            area 0 = 0
            run 1 1 = 1
            area 0 = 1
            run 1 100 = 0
            area 0 = 1
            """);
        Script.check("units that are lost by force count for who has them then", """
            resource 0 9 true = true
            process 1 1 10 = 0
            body 0: seize 0 9, passivate
            process 0 1 0 = 1
            body 1: seize 0 2, hold 3, release 0 2
            activate 0 0 = true
            activate 1 10 = true
            run 100 100 = 4
            area 0 = 96
            """);
        Script.check("a change of the capacity changes nothing of it; refused runs neither", """
            process 0 1 0 = 0
            body 0: seize 2 1, passivate
            activate 0 0 = true
            run 1 0 = 1
            run 1 4 = 0
            resource 2 9 true = true
            area 2 = 4
            refused: run 1 3; run 101 10
            run 1 6 = 0
            area 2 = 6
            """);
        Script.check("each resource has its own", """
            process 0 1 0 = 0
            body 0: seize 0 1, hold 1, seize 1 1, hold 1, seize 2 1, hold 1, seize 3 1, hold 1
            activate 0 0 = true
            run 100 4 = 5
            area 0 = 4
            area 1 = 3
            area 2 = 2
            area 3 = 1
            """);
        Script.end();
    }
}
