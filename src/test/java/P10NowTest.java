public final class P10NowTest {
    public static void main(String[] args) {
        Script.check("the clock moves only by events and by run", """
            now = 0
            process 0 1 0 = 0
            body 0: passivate, hold 9
            activate 0 4 = true
            now = 0
            run 1 100 = 1
            now = 4
            interrupt 0 = true
            kill 0 = true
            now = 4
            run 1 1000000000000 = 0
            now = 1000000000000
            """);
        Script.check("all events of one time have the same clock", """
            process 0 1 0 = 0
            process 0 1 0 = 1
            activate 0 6 = true
            activate 1 6 = true
            run 1 6 = 1
            now = 6
            run 1 6 = 1
            now = 6
            """);
        Script.check("a refused run leaves the clock", """
            run 1 50 = 0
            refused: run 1 49; run 101 60; run -1 60; run 1 1000000000001
            now = 50
            """);
        Script.check("0, and the latest time", """
            run 1 0 = 0
            now = 0
            run 1 999999999999 = 0
            now = 999999999999
            run 1 1000000000000 = 0
            now = 1000000000000
            """);
        Script.end();
    }
}
