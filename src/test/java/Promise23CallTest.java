/**
 * Promise 23, call: CALL to a STOP: one who is there, and more FAITH (0 to 40 more) than he has, by which THE TRAM is
 * there now: how much (what = 0), who (1); NONE. BAD: no such STOP, too.
 */
public final class Promise23CallTest {
    private static final Edge edge = new Edge("Promise 23, call");
    private static final int MIN = Integer.MIN_VALUE, MAX = Integer.MAX_VALUE;

    public static void main(String[] args) {
        edge.test("0 more, if THE TRAM is there; of these the least number");
        calls("t2,0;p0,1,0;k1,5,0;p1,5,0;", 1, "0", "1");
        calls("t2,0;k0,5,0;", 0, "0", "0");

        edge.test("1 more");
        calls("t2,0;p0,0,1;", 0, "1", "0");
        calls("t2,6;p0,5,1;", 0, "1", "0");
        calls("t2,0;p0,5,1;p1,5,0;", 1, "1", "1");

        edge.test("40 more, and not 41");
        calls("t2,40;p0,0,1;", 0, "40", "0");
        calls("t2,40;d0,0,1;", 0, "40", "0");
        calls("t2,40;d0,0,1; minutes(1)", 0, "NONE", "NONE");
        calls("t2,0;p0,0,1;p1,20,0;p1,20,0;", 0, "40", "0");
        calls("t2,0;p1,0,0;p0,20,1;p0,20,1;", 1, "NONE", "NONE");
        calls("t2,0;p1,1,0;p0,20,1;p0,20,1;", 1, "40", "0");

        edge.test("of several the least more, of these the least number");
        calls("t2,30;d0,5,0;p0,5,0; minutes(10)", 0, "25", "1");
        calls("t2,30;d0,5,0;p0,5,0; minutes(5)", 0, "25", "0");
        calls("t2,20;s0,3,1;c0,1,1;p0,3,1;", 0, "11", "1");
        calls("t2,20;p0,3,1;c0,1,1;p0,3,1;", 0, "11", "0");

        edge.test("NONE: nobody is there");
        calls("t2,0;p0,5,1;", 1, "NONE", "NONE");
        calls(Edge.EMPTY, 0, "NONE", "NONE");

        edge.test("NONE: by none, since no FAITH makes a child or a saint HOPE more");
        calls("t2,4;k0,20,1;", 0, "NONE", "NONE");
        calls("t2,14;s0,20,1;", 0, "NONE", "NONE");
        calls("t2,13;s0,20,1;", 0, "0", "0");

        edge.test("BAD: no such STOP");
        for (int what = 0; what <= 1; what++) {
            edge.each(Edge.RICH, "call(#," + what + ") = BAD", -1, 5, 6, MIN, MAX);
            edge.each(Edge.CROWDED, "call(#," + what + ") = BAD", -1, 8);
            edge.each(Edge.EMPTY, "call(#," + what + ") = BAD", -1, 2);
            edge.each(Edge.NEW, "call(#," + what + ") = BAD", -1, 0);
        }
        calls("t8,0;k7,0,7;", 7, "0", "0");

        edge.test("BAD: neither 0 nor 1");
        edge.each(Edge.RICH, "call(0,#) = BAD", -1, 2, 3, MIN, MAX);
        edge.beside("call");
        edge.end();
    }

    private static void calls(String scene, int stop, String more, String who) {
        edge.stays(scene, "call(" + stop + ",0) = " + more, "call(" + stop + ",1) = " + who);
    }
}
