/** Promise 35, trace: Number i of THE TRACE; NONE. */
public final class Promise35TraceTest {
    private static final Edge edge = new Edge("Promise 35, trace");
    private static final int MIN = Integer.MIN_VALUE, MAX = Integer.MAX_VALUE;
    private static final String ALL_KINDS = "t4,40;p0,6,0;c0,5,0;d0,4,0;k0,3,0;s0,2,0; minutes(2) ";

    public static void main(String[] args) {
        edge.test("NONE: THE TRACE is empty at first");
        edge.each(Edge.NEW, "trace(#) = NONE", 0, 1, 15, 16, -1, MIN, MAX);

        edge.test("each number of it, and NONE behind its last and ahead of its first");
        traces("ask(0,0)", 11, 10, 21, 20);
        traces("ask(0,1)", 21, 20);
        traces("ask(1,0)", 12, 11, 10, 24, 21, 20);
        traces("ask(1,1)", 24, 21, 20);
        traces("ask(2,0)", 11, 10, 22, 21, 20);
        traces("ask(2,1)", 22, 21, 20);
        traces("ask(3,0)", 13, 10);
        traces("ask(3,1)", 23, 20, 13, 10);
        traces("ask(4,0)", 14, 13, 10);
        traces("ask(4,1)", 23, 20, 14, 13, 10);

        edge.test("the first 16: no number beyond");
        edge.each(ALL_KINDS + "ask(1,0)", "trace(#) = NONE", 6, 7, 14, 15, 16, 17, -1, -16, MIN, MAX);

        edge.test("THE TRACE stays when another LINE is read, one with nobody, too, or an IMAGE is restored");
        edge.answers(ALL_KINDS + "image(0) ask(3,0) t2,0;", "count(2) = 0", "trace(0) = 13", "trace(1) = 10",
            "trace(2) = NONE", "restore(0) = 1", "trace(0) = 13", "ask(0,1) = 2", "trace(0) = 21");

        edge.test("many ASKS leave no more than the latest does");
        edge.answers(ALL_KINDS + "ask(1,0)*20", "trace(5) = 20", "trace(6) = NONE", "trace(15) = NONE",
            "trace(16) = NONE", "ask(3,0) = -97", "trace(1) = 10", "trace(2) = NONE");
        edge.beside("trace");
        edge.end();
    }

    private static void traces(String ask, int... bodies) {
        for (int i = 0; i < bodies.length; i++) {
            edge.stays(ALL_KINDS + ask, "trace(" + i + ") = " + bodies[i]);
        }
        edge.each(ALL_KINDS + ask, "trace(#) = NONE", -1, bodies.length, bodies.length + 1, 16);
    }
}
