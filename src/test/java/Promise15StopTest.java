/** Promise 15, stop: Of a STOP: 0 HOPE, 1 who is there (bits). BAD. */
public final class Promise15StopTest {
    private static final Edge edge = new Edge("Promise 15, stop");
    private static final int MIN = Integer.MIN_VALUE, MAX = Integer.MAX_VALUE;

    public static void main(String[] args) {
        edge.test("BAD: no such STOP");
        for (int what = 0; what <= 1; what++) {
            for (int stops = 2; stops <= 8; stops++) {
                String line = "t" + stops + ",0;p0,7,1; minutes(1)";
                edge.each(line, "stop(#," + what + ") = BAD", -1, stops, stops + 1);
                edge.stays(line, "stop(" + (stops - 1) + "," + what + ") = " + (stops == 2 ? 7 - 6 * what : 0));
            }
            edge.each(Edge.RICH, "stop(#," + what + ") = BAD", -1, 5, MIN, MAX);
            edge.each(Edge.NEW, "stop(#," + what + ") = BAD", -1, 0);
        }

        edge.test("BAD: neither 0 nor 1");
        edge.each(Edge.RICH, "stop(0,#) = BAD", -1, 2, 3, MIN, MAX);

        edge.test("HOPE of all who are there, together: of nobody 0");
        edge.stays(Edge.EMPTY, "stop(0,0) = 0", "stop(1,0) = 0");
        edge.stays("t2,0;p0,20,0;", "stop(0,0) = 20", "stop(1,0) = 0");
        edge.stays("t2,0;c1,20,0;c1,20,0;c1,20,0;c1,20,0;c1,20,0;c1,20,0;", "stop(0,0) = 0", "stop(1,0) = 150");
        edge.stays("t2,0;p0,5,0;c0,5,0;d0,5,0;k0,5,0;s0,5,0; minutes(6)", "stop(0,0) = 20");

        edge.test("who is there, bits: nobody, all, some");
        edge.stays(Edge.EMPTY, "stop(0,1) = 0", "stop(1,1) = 0");
        edge.stays("t8,0;p7,0,0;p7,0,0;p7,0,0;p7,0,0;p7,0,0;p7,0,0;", "stop(7,1) = 63", "stop(0,1) = 0");
        edge.stays("t8,0;p7,0,0;p0,0,0;p7,0,0;p0,0,0;p7,0,0;p0,0,0;", "stop(7,1) = 21", "stop(0,1) = 42");
        edge.beside("stop");
        edge.end();
    }
}
