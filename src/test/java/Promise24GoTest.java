/**
 * Promise 24, go: GO of one: the STOP at which, were he there now, he is THERE soonest, but not the one he WANTS:
 * which (what = 0), how many MINUTES (1 to 60) (1); NONE. BAD.
 */
public final class Promise24GoTest {
    private static final Edge edge = new Edge("Promise 24, go");
    private static final int MIN = Integer.MIN_VALUE, MAX = Integer.MAX_VALUE;
    /** Doubters keep THE TRAM from 0, at whatever STOP he is: THERE behind 60 MINUTES by each, or 61. */
    private static final String GO_60 = "t5,2;d3,0,4;k0,7,4;k4,2,4;d4,20,4;d1,19,0;d2,20,0;";
    private static final String GO_61 = "t5,1;d0,4,0;p4,1,1;d2,20,4;d4,19,3;d3,20,3;d3,20,3;";

    public static void main(String[] args) {
        edge.test("not the one he WANTS, were it soonest, or his");
        goes("t2,0;p0,9,1;", 0, "0", "1");
        goes("t2,0;p1,9,1;", 0, "0", "1");
        goes("t8,0;p0,9,7;", 0, "6", "1");
        goes("t8,0;p7,9,0;", 0, "1", "1");

        edge.test("of several the first");
        goes("t3,0;p1,9,1;", 0, "0", "1");
        goes("t3,0;p2,9,1;", 0, "0", "1");
        goes("t8,0;p4,9,4;", 0, "3", "1");

        edge.test("of the first one, of the last of six");
        goes("t4,0;p0,1,3;p2,9,3;", 0, "2", "1");
        goes("t4,0;p0,1,3;p2,9,3;", 1, "2", "1");
        goes("t8,0;k0,0,0;p0,0,1;p0,0,1;p0,0,1;p0,0,1;p7,9,2;", 5, "1", "1");
        goes("t8,40;k0,0,0;p0,0,1;p0,0,1;p0,0,1;p0,0,1;p7,9,2;", 5, "NONE", "NONE");

        edge.test("1 to 60 MINUTES");
        goes(GO_60, 0, "0", "60");
        goes(GO_61, 0, "NONE", "NONE");

        edge.test("NONE: by none");
        goes("t3,40;p0,1,2;", 0, "NONE", "NONE");
        goes("t2,0;p0,0,1;", 0, "NONE", "NONE");

        edge.test("WAITED 0 MINUTES, unless it is his");
        goes("t3,0;d0,5,2;p2,6,2; minutes(2) preach(1,4)", 0, "1", "1");
        goes("t2,0;d0,5,1;p1,6,1; minutes(2) preach(1,4)", 0, "NONE", "NONE");
        goes("t2,0;d0,5,1;p1,6,1; minutes(1) preach(1,3)", 0, "0", "1");

        edge.test("by the highest BOUND");
        goes("t3,40;p2,0,1;p0,20,0;p0,20,0;", 0, "0", "1");
        goes("t3,40;p2,0,1;p0,20,0;p0,19,0;", 0, "NONE", "NONE");

        edge.test("were he there now: others HOPE by that, too");
        // one of the crowd HOPES more by him, a saint less
        goes("t3,6;c1,5,1;p0,0,2;", 1, "1", "1");
        goes("t3,7;c1,5,1;p0,0,2;", 1, "NONE", "NONE");
        goes("t3,3;s1,0,1;p0,0,2;", 1, "1", "1");
        goes("t3,4;s1,0,1;p0,0,2;", 1, "NONE", "NONE");

        edge.test("others have WAITED as long as they have");
        goes("t3,0;d0,9,0;p1,1,1; minutes(9) wish(1,2)", 1, "1", "1");
        goes("t3,0;d0,9,0;p1,1,1; minutes(8) wish(1,2)", 1, "0", "2");

        edge.test("BAD: no such one");
        for (int what = 0; what <= 1; what++) {
            edge.each(Edge.RICH, "go(#," + what + ") = BAD", -1, 5, 6, MIN, MAX);
            edge.each(Edge.CROWDED, "go(#," + what + ") = BAD", -1, 6);
            edge.each(Edge.EMPTY, "go(#," + what + ") = BAD", -1, 0);
            edge.each(Edge.NEW, "go(#," + what + ") = BAD", -1, 0);
        }

        edge.test("BAD: neither 0 nor 1");
        edge.each(Edge.RICH, "go(0,#) = BAD", -1, 2, 3, MIN, MAX);
        edge.beside("go");
        edge.end();
    }

    private static void goes(String scene, int person, String which, String behind) {
        edge.stays(scene, "go(" + person + ",0) = " + which, "go(" + person + ",1) = " + behind);
    }
}
