public final class P05TankTest {
    public static void main(String[] args) {
        Script.check("edges and wrong inputs", """
            tank 0 0 0 = true
            tank 3 1000 1000 = true
            level 3 = 1000
            tank 1 7 7 = true
            tank 1 7 0 = true
            tank 2 9 5 = true
            level 2 = 5
            refused: tank -1 5 5; tank 4 5 5; tank 2 5 6; tank 2 1001 5; tank 2 5 -1; tank 2 -1 -1; tank 2 -1 0
            refused: tank 2147483647 5 5; tank 2 2147483647 5; tank 2 0 1; tank 2 1001 1001
            level 2 = 5
            """);
        Script.check("a refused call changes neither capacity nor level", """
            tank 0 10 5 = true
            refused: tank 0 20 21
            process 0 1 0 = 0
            body 0: put 0 5, put 0 1
            activate 0 0 = true
            run 1 0 = 1
            level 0 = 10
            state 0 = 5
            """);
        Script.check("who waits goes on only after the next event", """
            tank 0 10 0 = true
            process 0 1 0 = 0
            body 0: take 0 4, hold 1
            process 0 1 0 = 1
            body 1: hold 5
            activate 0 0 = true
            activate 1 0 = true
            run 2 0 = 2
            state 0 = 5
            tank 0 10 10 = true
            state 0 = 5
            level 0 = 10
            waiting 4 = 1
            run 0 0 = 0
            run 1 4 = 0
            state 0 = 5
            run 1 5 = 1
            state 0 = 1
            level 0 = 6
            next = 5
            place 0 = 1
            """);
        Script.check("PUT and TAKE at their edges", """
            tank 0 5 0 = true
            process 0 1 0 = 0
            body 0: put 0 5, take 0 5, put 0 3, put 0 3
            process 0 1 0 = 1
            body 1: take 0 4
            process 0 1 0 = 2
            body 2: take 0 3
            activate 0 0 = true
            run 1 0 = 1
            level 0 = 3
            state 0 = 5
            place 0 = 4
            activate 1 0 = true
            run 1 0 = 1
            state 1 = 5
            waiting 4 = 2
            activate 2 0 = true
            run 1 0 = 1
            state 2 = 6
            level 0 = 3          # the first of the line puts its 3 again, too few for the take of 4
            state 0 = 1
            state 1 = 5
            """);
        Script.check("the line is gone over once, from the first to the last", """
            tank 0 10 0 = true
            process 0 1 0 = 0
            body 0: take 0 4       # stands first, its condition comes true by the second
            process 0 1 0 = 1
            body 1: put 0 10
            process 0 1 0 = 2
            body 2: take 0 5
            process 0 1 0 = 3
            body 3: take 0 3
            activate 0 0 = true
            run 1 0 = 1
            tank 0 10 1 = true
            activate 1 0 = true
            activate 2 0 = true
            activate 3 0 = true
            run 3 0 = 3
            waiting 4 = 4
            tank 0 10 0 = true
            process 0 1 0 = 4
            activate 4 0 = true
            run 1 0 = 1
            state 0 = 5
            state 1 = 1
            state 2 = 1
            state 3 = 1
            level 0 = 2
            waiting 4 = 1
            run 3 0 = 3
            traced 2 = 17
            traced 1 = 18
            traced 0 = 19
            state 0 = 5
            stuck = true
            """);
        Script.check("a process in its turn goes before those who wait", """
            tank 0 10 0 = true
            process 0 1 0 = 0
            body 0: take 0 5
            process 0 1 0 = 1
            body 1: put 0 6, take 0 3
            activate 0 0 = true
            activate 1 0 = true
            run 2 0 = 2
            state 1 = 6
            state 0 = 5
            level 0 = 3
            """);
        Script.check("level 0 and level as the capacity, of capacity 0, 1 and 1000", """
            tank 0 0 0 = true
            level 0 = 0
            refused: tank 0 0 1; tank 0 0 -1
            tank 1 1 0 = true
            level 1 = 0
            tank 1 1 1 = true
            level 1 = 1
            refused: tank 1 1 2
            tank 2 1000 0 = true
            level 2 = 0
            tank 2 1000 1000 = true
            level 2 = 1000
            refused: tank 2 1000 1001; tank 2 1001 1000; tank 2 1001 0
            """);
        Script.check("a lesser capacity than the level was, if the new level is within it", """
            tank 0 10 10 = true
            refused: tank 0 9 10
            tank 0 9 9 = true
            level 0 = 9
            tank 0 0 0 = true
            level 0 = 0
            """);
        Script.check("the capacity holds from now on, for PUT in a turn and in the line", """
            tank 0 3 0 = true
            process 0 1 0 = 0
            body 0: put 0 4
            process 0 1 0 = 1
            body 1: put 0 3
            activate 0 0 = true
            run 1 0 = 1
            state 0 = 5
            tank 0 6 0 = true
            activate 1 0 = true
            run 1 0 = 1
            level 0 = 3
            state 1 = 6
            state 0 = 5
            tank 0 7 3 = true
            process 0 1 0 = 2
            activate 2 0 = true
            run 1 0 = 1
            state 0 = 1
            level 0 = 7
            """);
        Script.end();
    }
}
