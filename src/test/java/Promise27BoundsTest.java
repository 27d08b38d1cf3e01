/**
 * Promise 27, bounds: BOUNDS (0 to 29, bits), n ITEMS (1 to 16) of a ROW from i on. BAD: ROW, n; STATE: no LINE
 * (ahead of BAD); NULL; PLACE.
 */
public final class Promise27BoundsTest {
    private static final Edge edge = new Edge("Promise 27, bounds");
    private static final int MIN = Integer.MIN_VALUE, MAX = Integer.MAX_VALUE;
    private static final int ALL = (1 << 30) - 1;
    private static final String AT_0 = "t2,40;p0,9,0; row(0,0,40)";

    public static void main(String[] args) {
        edge.test("BOUND 0 to 29, bits: the first, the last, none, all");
        edge.stays("t2,40;p1,15,1;p1,14,1; row(0,1,2) set(0,0,1) set(0,1,-1)", "bounds(0,0,1) = " + ALL,
            "bounds(0,1,1) = 0");
        edge.stays("t2,40;p1,14,1;p1,14,1; row(0,1,2) set(0,0,1) set(0,1,-1)", "bounds(0,0,1) = " + (ALL >> 1),
            "bounds(0,1,1) = " + (1 << 29));
        edge.stays("t2,40;p1,15,1;p1,15,1; row(0,1,2) set(0,0,1) set(0,1,-1)", "bounds(0,0,1) = " + ALL,
            "bounds(0,1,1) = 0");
        edge.stays("t2,40;p1,1,1; row(0,1,2) set(0,0,1) set(0,1,-1)", "bounds(0,0,1) = 3",
            "bounds(0,1,1) = " + (ALL - 3));

        edge.test("all have WAITED as long as they have");
        edge.stays("t2,40;d0,9,0; minutes(3) row(0,0,2)", "bounds(0,0,1) = 127", "bounds(0,0,2) = 63");

        edge.test("and more than 0: nowhere by BOUND 0, too");
        edge.stays("t2,40;p1,0,1; row(0,1,2) set(0,0,1) set(0,1,-1)", "bounds(0,0,1) = 0", "bounds(0,1,1) = " + ALL);
        edge.stays(Edge.EMPTY + " row(0,1,1) set(0,0,-1)", "bounds(0,0,1) = " + ALL);

        edge.test("n: 1 to 16 MINUTES from this one on, n ITEMS from i on");
        edge.stays(AT_0, "bounds(0,0,1) = 1023", "bounds(0,0,16) = 1023", "bounds(0,24,16) = 1023",
            "bounds(0,39,1) = 1023");
        edge.stays(AT_0 + " set(0,15,1)", "bounds(0,0,15) = 1023", "bounds(0,0,16) = 0", "bounds(0,15,1) = 0",
            "bounds(0,16,16) = 1023");
        edge.each(AT_0, "bounds(0,0,#) = BAD", 0, 17, -1, 18, MIN, MAX);

        edge.test("-1: nowhere; a number that is no STOP is never told");
        edge.stays("t2,5;p1,9,1; row(0,2,4) set(0,0,-2) set(0,1,2) set(0,2,NONE) set(0,3,257)", "bounds(0,0,1) = 0",
            "bounds(0,1,1) = 0", "bounds(0,2,1) = 0", "bounds(0,3,1) = 0");

        edge.test("PLACE: no such place of a ROW");
        edge.each(AT_0, "bounds(0,#,1) = PLACE", -1, 40, 41, MIN, MAX);
        edge.each(AT_0, "bounds(0,#,16) = PLACE", -1, 25, 40, MIN, MAX);
        edge.each(Edge.RICH, "bounds(0,#,3) = PLACE", -1, 1, 2, 3);
        edge.each(Edge.RICH, "bounds(4,#,1) = PLACE", -1, 0, 1);

        edge.test("NULL: a ROW that is missing, ahead of PLACE");
        edge.each(Edge.RICH, "bounds(#,0,1) = NULL", 3, 5, 6, 7);
        edge.each(Edge.RICH, "bounds(3,#,16) = NULL", -1, 40, MIN, MAX);

        edge.test("BAD: no such ROW, ahead of NULL and PLACE");
        edge.each(Edge.RICH, "bounds(#,0,1) = BAD", -1, 8, MIN, MAX);
        edge.stays(Edge.RICH, "bounds(3,0,0) = BAD", "bounds(3,0,17) = BAD", "bounds(0,-1,17) = BAD",
            "bounds(8,-1,1) = BAD");

        edge.test("STATE: no LINE, ahead of BAD, NULL and PLACE");
        edge.stays(Edge.NEW, "bounds(0,0,1) = STATE", "bounds(-1,0,1) = STATE", "bounds(8,0,1) = STATE",
            "bounds(0,0,0) = STATE", "bounds(0,0,17) = STATE");
        edge.stays("row(0,0,2) set(0,2,0) !t9,0;", "bounds(0,0,1) = STATE", "bounds(0,2,1) = STATE",
            "bounds(1,0,1) = STATE");
        edge.beside("bounds");
        edge.end();
    }
}
