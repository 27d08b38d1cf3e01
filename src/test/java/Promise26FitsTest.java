/**
 * Promise 26, fits: FAITHS (what = 0), SORTS (1), n ITEMS (1 to 16) of a ROW from i on. BAD: one, ROW, n, what; NULL;
 * PLACE.
 */
public final class Promise26FitsTest {
    private static final Edge edge = new Edge("Promise 26, fits");
    private static final int MIN = Integer.MIN_VALUE, MAX = Integer.MAX_VALUE;
    private static final int ALL_FAITHS = (1 << 21) - 1, ALL_SORTS = 62;
    /** By any FAITH but 0 THE TRAM is at 0, and stays; 40 ITEMS, all of them 0. */
    private static final String AT_0 = "t2,0;p0,9,0; row(0,0,40)";

    public static void main(String[] args) {
        tellsFaiths();
        tellsSorts();
        takesItems();
        refuses();
        edge.beside("fits");
        edge.end();
    }

    private static void tellsFaiths() {
        edge.test("FAITH 0 to 20, bits: the first, the last, none, all");
        edge.stays("t2,0;p0,9,0; row(0,0,1) set(0,0,-1)", "fits(0,0,0,1,0) = 1");
        edge.stays("t2,20;p0,9,0; row(0,0,1)", "fits(0,0,0,1,0) = " + (1 << 20));
        edge.stays("t2,21;p0,9,0; row(0,0,1)", "fits(0,0,0,1,0) = 0");
        edge.stays("t2,20;p0,9,0; row(0,0,1) set(0,0,-1)", "fits(0,0,0,1,0) = " + (ALL_FAITHS - (1 << 20)));
        edge.stays("t2,0;k0,9,0; row(0,0,1)", "fits(0,0,0,1,0) = " + ALL_FAITHS);
        edge.stays("t2,21;p0,9,0; row(0,0,1) set(0,0,-1)", "fits(0,0,0,1,0) = " + ALL_FAITHS);

        edge.test("FAITH of one now: the others have theirs");
        edge.stays("t2,0;p0,9,0;p1,9,1; row(0,0,2) set(0,1,1)", "fits(0,0,0,1,0) = " + (ALL_FAITHS - 511),
            "fits(0,0,1,1,0) = 511", "fits(1,0,0,1,0) = 1023", "fits(1,0,1,1,0) = " + (ALL_FAITHS - 1023));

        edge.test("FAITH of one now: all have WAITED as long as they have");
        edge.stays("t2,5;d0,9,0; minutes(3) row(0,0,1)", "fits(0,0,0,1,0) = " + (ALL_FAITHS - 255));
        edge.stays("t2,5;d0,9,0;p0,0,0; minutes(6) row(0,0,1)", "fits(1,0,0,1,0) = " + (ALL_FAITHS - 3));
    }

    private static void tellsSorts() {
        edge.test("KINDS, bits 1 to 5: each, none, all");
        edge.stays("t2,3;p0,9,0; row(0,0,1)", "fits(0,0,0,1,1) = " + ALL_SORTS);
        edge.stays("t2,4;p0,9,0; row(0,0,1)", "fits(0,0,0,1,1) = " + (ALL_SORTS - 16));
        edge.stays("t2,4;p0,9,0; row(0,0,1) set(0,0,-1)", "fits(0,0,0,1,1) = 16");
        edge.stays("t2,13;p0,0,0; row(0,0,1)", "fits(0,0,0,1,1) = 32");
        edge.stays("t2,14;p0,0,0; row(0,0,1)", "fits(0,0,0,1,1) = 0");
        edge.stays("t2,14;p0,0,0; row(0,0,1) set(0,0,-1)", "fits(0,0,0,1,1) = " + ALL_SORTS);
        edge.stays("t2,10;d0,9,0;p0,0,0; row(0,0,1)", "fits(0,0,0,1,1) = 4");
        edge.stays("t2,1;k0,2,0; row(0,0,3) set(0,2,-1)", "fits(0,0,0,3,1) = 8");
        edge.stays("t2,9;s0,9,0; minutes(1) row(0,0,1)", "fits(0,0,0,1,1) = 38");
        edge.stays("t2,9;s0,9,0;p0,0,0; minutes(1) row(0,0,1)", "fits(0,0,0,1,1) = 6");

        edge.test("others have WAITED as long as they have");
        edge.stays("t2,5;d0,9,0;p0,0,0; minutes(6) row(0,0,1)", "fits(1,0,0,1,1) = 48");
    }

    private static void takesItems() {
        edge.test("n: 1 to 16 MINUTES from this one on, n ITEMS from i on");
        edge.stays(AT_0, "fits(0,0,0,1,0) = " + (ALL_FAITHS - 1), "fits(0,0,0,16,0) = " + (ALL_FAITHS - 1),
            "fits(0,0,24,16,0) = " + (ALL_FAITHS - 1), "fits(0,0,39,1,0) = " + (ALL_FAITHS - 1));
        edge.stays(AT_0 + " set(0,15,1)", "fits(0,0,0,15,0) = " + (ALL_FAITHS - 1), "fits(0,0,0,16,0) = 0",
            "fits(0,0,15,1,0) = 0", "fits(0,0,16,16,0) = " + (ALL_FAITHS - 1));
        edge.each(AT_0, "fits(0,0,0,#,0) = BAD", 0, 17, -1, 18, MIN, MAX);
        edge.each(AT_0, "fits(0,0,0,#,1) = BAD", 0, 17);

        edge.test("-1: nowhere; a number that is no STOP is never told");
        for (int lane = 0; lane <= 2; lane++) {
            String row = "t2,5;p1,9,1; row(3," + lane + ",4) set(3,0,-1) set(3,1,-2) set(3,2,2) set(3,3,1)";
            edge.stays(row, "fits(0,3,0,1,0) = 31", "fits(0,3,1,1,0) = 0", "fits(0,3,2,1,0) = 0",
                "fits(0,3,3,1,0) = " + (ALL_FAITHS - 31));
        }
        edge.stays("t2,5;p0,9,1; row(0,2,4) set(0,0,NONE) set(0,1,256) set(0,2,MIN) set(0,3,65536)",
            "fits(0,0,0,1,0) = 0", "fits(0,0,1,1,0) = 0", "fits(0,0,2,1,1) = 0", "fits(0,0,3,1,1) = 0");

        edge.test("PLACE: no such place of a ROW");
        for (int what = 0; what <= 1; what++) {
            edge.each(AT_0, "fits(0,0,#,1," + what + ") = PLACE", -1, 40, 41, MIN, MAX);
            edge.each(AT_0, "fits(0,0,#,16," + what + ") = PLACE", -1, 25, 40, MIN, MAX);
            edge.each(Edge.RICH, "fits(0,0,#,3," + what + ") = PLACE", -1, 1, 2, 3);
            edge.each(Edge.RICH, "fits(0,4,#,1," + what + ") = PLACE", -1, 0, 1);
        }
        edge.stays(Edge.RICH, "fits(0,0,0,4,0) = PLACE", "fits(4,2,25,16,1) = PLACE");
    }

    private static void refuses() {
        edge.test("BAD: no such one");
        edge.each(Edge.RICH, "fits(#,0,0,1,0) = BAD", -1, 5, 6, MIN, MAX);
        edge.each(Edge.CROWDED, "fits(#,0,0,1,0) = BAD", -1, 6);
        edge.each(Edge.EMPTY + " row(0,0,1)", "fits(#,0,0,1,0) = BAD", -1, 0);
        edge.each("row(0,0,1)", "fits(#,0,0,1,0) = BAD", -1, 0);

        edge.test("BAD: no such ROW");
        edge.each(Edge.RICH, "fits(0,#,0,1,0) = BAD", -1, 8, MIN, MAX);

        edge.test("BAD: what is neither 0 nor 1");
        edge.each(Edge.RICH, "fits(0,0,0,1,#) = BAD", -1, 2, 3, MIN, MAX);

        edge.test("NULL: a ROW that is missing, ahead of PLACE");
        edge.each(Edge.RICH, "fits(0,#,0,1,0) = NULL", 3, 5, 6, 7);
        edge.stays(Edge.RICH, "fits(0,3,-1,1,0) = NULL", "fits(0,3,40,16,1) = NULL", "fits(4,7,0,16,1) = NULL");

        edge.test("BAD is ahead of NULL and PLACE");
        edge.stays(Edge.RICH, "fits(5,3,0,1,0) = BAD", "fits(0,3,0,0,0) = BAD", "fits(0,3,0,17,0) = BAD",
            "fits(0,3,0,1,2) = BAD", "fits(5,0,-1,1,0) = BAD", "fits(0,0,-1,17,0) = BAD", "fits(0,0,3,1,2) = BAD",
            "fits(0,8,-1,1,0) = BAD");
        edge.stays(Edge.NEW, "fits(0,0,0,1,0) = BAD");
    }
}
