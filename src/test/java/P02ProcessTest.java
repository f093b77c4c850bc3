public final class P02ProcessTest {
    public static void main(String[] args) {
        Script.check("numbers in order of making, twelve at most", """
            process -4 1 0 = 0
            process 4 9 10 = 1
            process 0 5 5 = 2
            process 0 1 0 = 3
            process 0 1 0 = 4
            process 0 1 0 = 5
            process 0 1 0 = 6
            process 0 1 0 = 7
            process 0 1 0 = 8
            process 0 1 0 = 9
            process 0 1 0 = 10
            state 11 = -1
            process 0 1 0 = 11
            state 0 = 0
            place 0 = 0
            state 11 = 0
            place 11 = 0
            held 11 3 = 0
            refused: process 0 1 0
            state 12 = -1
            """);
        Script.check("wrong inputs", """
            refused: process -5 1 0; process 5 1 0; process 0 0 0; process 0 10 0; process 0 -1 0
            refused: process 0 1 -1; process 0 1 11
            refused: process -2147483648 1 0; process 0 2147483647 0; process 0 1 2147483647
            process 0 1 0 = 0
            """);
        Script.check("a process with no instruction ends in its first turn", """
            process 0 9 0 = 0
            activate 0 0 = true
            run 9 0 = 1
            state 0 = 6
            place 0 = 0
            """);
        Script.check("of equal times the lesser priority number goes first", """
            process 4 1 0 = 0
            process 0 1 0 = 1
            process -4 1 0 = 2
            activate 0 3 = true
            activate 1 3 = true
            activate 2 3 = true
            run 9 3 = 3
            traced 2 = 2
            traced 1 = 1
            traced 0 = 0
            """);
        Script.check("as many rounds as said", """
            process 0 9 0 = 0
            body 0: hold 1
            process 0 1 0 = 1
            body 1: hold 1
            activate 0 0 = true
            activate 1 0 = true
            run 100 8 = 11
            state 0 = 2
            state 1 = 6
            run 100 100 = 1
            state 0 = 6
            place 0 = 1
            traced 0 = 16
            """);
        Script.check("a turn of nine rounds of ten instructions", """
            process 0 9 0 = 0
            body 0: put 0 1, put 0 1, put 0 1, put 0 1, put 0 1, put 0 1, put 0 1, put 0 1, put 0 1, put 0 1
            activate 0 0 = true
            run 9 0 = 1
            level 0 = 90
            state 0 = 6
            place 0 = 10
            """);
        Script.check("an interrupt does not give rounds back", """
            process 0 2 1 = 0
            body 0: hold 10
            activate 0 0 = true
            run 1 0 = 1
            interrupt 0 = true
            place 0 = 1
            run 1 0 = 1
            state 0 = 2
            place 0 = 1
            interrupt 0 = true
            run 1 0 = 1
            state 0 = 6
            """);
        Script.check("twelve that are over are twelve still", """
            process 0 1 0 = 0
            process 0 1 0 = 1
            process 0 1 0 = 2
            process 0 1 0 = 3
            process 0 1 0 = 4
            process 0 1 0 = 5
            process 0 1 0 = 6
            process 0 1 0 = 7
            process 0 1 0 = 8
            process 0 1 0 = 9
            process 0 1 0 = 10
            process 0 1 0 = 11
            kill 0 = true
            activate 11 0 = true
            run 1 0 = 1
            state 0 = 7
            state 11 = 6
            refused: process 0 1 0; process 4 9 10
            """);
        Script.check("a refused one takes no number", """
            process 0 1 0 = 0
            refused: process 5 1 0; process 0 0 0; process 0 1 11
            process 0 1 0 = 1
            refused: process -5 1 0; process 0 10 0; process 0 1 -1
            process 0 1 0 = 2
            state 3 = -1
            """);
        Script.check("a process can be made at any time, and after others are over", """
            process 0 1 0 = 0
            activate 0 3 = true
            run 1 5 = 1
            run 1 5 = 0
            process 0 1 0 = 1
            state 1 = 0
            place 1 = 0
            held 1 0 = 0
            activate 1 0 = true
            next = 5
            """);
        Script.end();
    }
}
