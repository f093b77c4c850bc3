public final class P16WaitingTest {
    public static void main(String[] args) {
        Script.check("each line has its own number", """
            resource 0 0 false = true
            resource 3 0 false = true
            process 0 1 0 = 0
            body 0: seize 0 1
            process 0 1 0 = 1
            body 1: seize 3 1
            process 0 1 0 = 2
            body 2: seize 3 2
            process 0 1 0 = 3
            body 3: take 0 1
            process 0 1 0 = 4
            body 4: join 0
            process 0 1 0 = 5
            body 5: join 5
            activate 0 0 = true
            activate 1 0 = true
            activate 2 0 = true
            activate 3 0 = true
            activate 4 0 = true
            activate 5 0 = true
            run 9 0 = 6
            waiting 0 = 1
            waiting 1 = 0
            waiting 2 = 0
            waiting 3 = 2
            waiting 4 = 3
            waiting 5 = -1
            waiting -1 = -1
            waiting 2147483647 = -1
            waiting -2147483648 = -1
            """);
        Script.check("eleven in one line, in order of priority, then of coming", """
            process 0 1 0 = 0
            body 0: seize 0 1, passivate, release 0 1
            process 2 1 0 = 1
            body 1: seize 0 1, release 0 1
            process -1 1 0 = 2
            body 2: seize 0 1, release 0 1
            process 2 1 0 = 3
            body 3: seize 0 1, release 0 1
            process -1 1 0 = 4
            body 4: seize 0 1, release 0 1
            process 0 1 0 = 5
            body 5: seize 0 1, release 0 1
            process 0 1 0 = 6
            body 6: seize 0 1, release 0 1
            process -4 1 0 = 7
            body 7: seize 0 1, release 0 1
            process 4 1 0 = 8
            body 8: seize 0 1, release 0 1
            process 4 1 0 = 9
            body 9: seize 0 1, release 0 1
            process 3 1 0 = 10
            body 10: seize 0 1, release 0 1
            process -4 1 0 = 11
            body 11: seize 0 1, release 0 1
            activate 0 0 = true
            activate 1 1 = true
            activate 2 2 = true
            activate 3 3 = true
            activate 4 4 = true
            activate 5 5 = true
            activate 6 6 = true
            activate 7 7 = true
            activate 8 8 = true
            activate 9 9 = true
            activate 10 10 = true
            activate 11 11 = true
            run 100 20 = 12
            waiting 0 = 11
            stuck = true
            activate 0 0 = true
            run 100 20 = 12
            waiting 0 = 0
            traced 11 = 32
            traced 10 = 23
            traced 9 = 27
            traced 8 = 18
            traced 7 = 20
            traced 6 = 21
            traced 5 = 22
            traced 4 = 17
            traced 3 = 19
            traced 2 = 26
            traced 1 = 24
            traced 0 = 25
            waited 0 = 154
            """);
        Script.check("twelve in the line of conditions", """
            process 0 1 0 = 0
            process 0 1 0 = 1
            process 0 1 0 = 2
            process 0 1 0 = 3
            process 0 1 0 = 4
            process 0 1 0 = 5
            process 0 1 0 = 6
            process 0 1 0 = 7
            process 0 1 0 = 8
            process 0 1 0 = 9
            process 0 1 0 = 10
            process 0 1 0 = 11
            body 0: join 0
            body 1: join 1
            body 2: join 2
            body 3: join 3
            body 4: join 4
            body 5: join 5
            body 6: join 6
            body 7: join 7
            body 8: join 8
            body 9: join 9
            body 10: join 10
            body 11: join 11
            activate 0 0 = true
            activate 1 0 = true
            activate 2 0 = true
            activate 3 0 = true
            activate 4 0 = true
            activate 5 0 = true
            activate 6 0 = true
            activate 7 0 = true
            activate 8 0 = true
            activate 9 0 = true
            activate 10 0 = true
            activate 11 0 = true
            run 100 0 = 12
            waiting 4 = 12
            stuck = true
            interrupt 5 = true
            waiting 4 = 11
            run 100 0 = 1
            waiting 4 = 12
            """);
        Script.check("an empty line, one in it, and empty again: each line", """
            waiting 0 = 0
            waiting 1 = 0
            waiting 2 = 0
            waiting 3 = 0
            waiting 4 = 0
            process 0 1 10 = 0
            body 0: seize 3 2
            process 0 1 10 = 1
            body 1: take 3 1
            activate 0 0 = true
            activate 1 0 = true
            run 2 0 = 2
            waiting 3 = 1
            waiting 4 = 1
            interrupt 0 = true
            interrupt 1 = true
            waiting 3 = 0
            waiting 4 = 0
            """);
        Script.end();
    }
}
