/** Promise 4, copy: n ITEMS of a from i on come to b from j on, as they were ahead. BAD: ROWS; NULL; STORE; PLACE. */
public final class Promise04CopyTest {
    private static final Edge edge = new Edge("Promise 4, copy");
    private static final int MIN = Integer.MIN_VALUE, MAX = Integer.MAX_VALUE;
    /** One rides from 0 to 3 in three MINUTES, THE TRAM with him: the row 0, 1, 2, 3 is told by all BOUNDS to 9. */
    private static final String RIDE = "t4,0;p0,9,3; row(0,0,5) set(0,1,1) set(0,2,2) set(0,3,3) set(0,4,-1) row(1,0,6)";
    private static final int TOLD = 1023;

    public static void main(String[] args) {
        edge.test("n ITEMS from i on come to b from j on");
        edge.answers(RIDE, "bounds(0,0,4) = 1023", "bounds(1,2,4) = 0", "copy(0,0,1,2,4) = 4", "bounds(1,2,4) = " + TOLD,
            "bounds(0,0,4) = " + TOLD, "copy(1,2,0,1,4) = 4", "bounds(0,1,4) = " + TOLD);

        edge.test("all ITEMS of ROWS of 40, to their ends");
        for (int lane = 0; lane <= 2; lane++) {
            String rows = "t4,0;p0,9,3; row(0,#,40) set(0,36,0) set(0,37,1) set(0,38,2) set(0,39,3) row(1,#,40)"
                .replace("#", Integer.toString(lane));
            edge.answers(rows, "copy(0,0,1,0,40) = 40", "bounds(1,36,4) = " + TOLD);
            edge.answers(rows, "copy(0,39,1,39,1) = 1", "bounds(1,36,4) = 0", "copy(0,36,1,36,4) = 4",
                "bounds(1,36,4) = " + TOLD);
            edge.stays(rows, "copy(0,0,1,0,41) = PLACE", "copy(0,1,1,0,40) = PLACE", "copy(0,0,1,1,40) = PLACE");
        }

        edge.test("as they were ahead, within one ROW, upwards, downwards, in place");
        edge.answers(RIDE, "copy(0,0,0,1,4) = 4", "bounds(0,1,4) = " + TOLD, "copy(0,1,0,0,4) = 4",
            "bounds(0,0,4) = " + TOLD, "copy(0,0,0,0,5) = 5", "bounds(0,0,4) = " + TOLD);

        edge.test("whatever the LINE is: by the highest BOUND, at the last MINUTE");
        edge.answers("t2,40;p1,20,1;p1,20,1; minutes(24)*41 minutes(15) row(0,0,2) set(0,1,1) row(1,0,2)",
            "bounds(1,0,1) = 0", "copy(0,1,1,0,1) = 1", "bounds(1,0,1) = 1073741823", "copy(0,0,1,0,2) = 2",
            "bounds(1,0,1) = 0");

        edge.test("n is 0: nothing comes, at each end too");
        edge.stays(RIDE, "copy(0,0,1,0,0) = 0", "copy(0,5,1,6,0) = 0", "copy(0,5,0,5,0) = 0", "copy(1,6,0,0,0) = 0");
        edge.stays(Edge.RICH + " row(5,0,0)", "copy(4,0,5,0,0) = 0", "copy(4,0,4,0,0) = 0", "copy(0,3,4,0,0) = 0");

        edge.test("PLACE: i below 0, or beyond an end");
        edge.each(RIDE, "copy(0,#,1,0,1) = PLACE", -1, 5, 6, MIN, MAX);
        edge.each(RIDE, "copy(0,#,1,0,0) = PLACE", -1, 6, MIN, MAX);
        edge.stays(RIDE, "copy(0,2,1,0,4) = PLACE", "copy(0,0,1,0,6) = PLACE");
        edge.answers(RIDE, "copy(0,1,1,0,4) = 4", "copy(0,4,1,0,1) = 1", "copy(0,0,1,0,5) = 5");

        edge.test("PLACE: j below 0, or beyond an end");
        edge.each(RIDE, "copy(0,0,1,#,1) = PLACE", -1, 6, 7, MIN, MAX);
        edge.each(RIDE, "copy(0,0,1,#,0) = PLACE", -1, 7, MIN, MAX);
        edge.stays(RIDE, "copy(0,0,1,3,4) = PLACE", "copy(1,0,0,0,6) = PLACE", "copy(0,0,0,1,5) = PLACE");
        edge.answers(RIDE, "copy(0,0,1,2,4) = 4", "copy(0,0,1,5,1) = 1", "copy(1,0,0,0,5) = 5");

        edge.test("PLACE: n below 0, or so large that i and n together wrap around");
        edge.each(RIDE, "copy(0,0,1,0,#) = PLACE", -1, -2, MIN, MAX);
        edge.each(RIDE, "copy(0,3,1,3,#) = PLACE", -1, -3, MIN, MAX);
        edge.stays(RIDE, "copy(0,MAX,1,0,MAX) = PLACE", "copy(0,0,1,MAX,MAX) = PLACE", "copy(0,MAX,1,MAX,1) = PLACE",
            "copy(0,MIN,1,MIN,MIN) = PLACE", "copy(0,MAX,1,MAX,MIN) = PLACE", "copy(0,5,1,5,-5) = PLACE");

        edge.test("STORE: ROWS of two LANES, ahead of PLACE");
        for (int[] pair : new int[][] {{0, 1}, {1, 0}, {0, 2}, {2, 0}, {1, 2}, {2, 1}}) {
            String copy = "copy(" + pair[0] + ",#," + pair[1] + ",0,";
            edge.each(Edge.RICH, copy + "1) = STORE", 0, -1, 41, MAX);
            edge.each(Edge.RICH, copy + "0) = STORE", 0);
            edge.each(Edge.RICH, copy + "-1) = STORE", 0);
        }
        edge.stays(Edge.RICH, "copy(0,0,4,0,1) = PLACE", "copy(4,0,1,0,0) = STORE");

        edge.test("NULL: a ROW that is missing, ahead of STORE and PLACE");
        edge.stays(Edge.RICH, "copy(3,0,0,0,1) = NULL", "copy(0,0,3,0,1) = NULL", "copy(3,0,6,0,1) = NULL",
            "copy(3,0,3,0,0) = NULL", "copy(3,-1,0,0,1) = NULL", "copy(0,0,3,0,-1) = NULL", "copy(2,41,7,0,1) = NULL",
            "copy(7,0,2,MAX,1) = NULL");
        edge.stays(Edge.RICH + " drop(0)", "copy(0,0,1,0,1) = NULL", "copy(1,0,0,0,1) = NULL");

        edge.test("BAD: ROWS, ahead of all that is found");
        edge.each(Edge.RICH, "copy(#,0,0,0,1) = BAD", -1, 8, MIN, MAX);
        edge.each(Edge.RICH, "copy(0,0,#,0,1) = BAD", -1, 8, MIN, MAX);
        edge.stays(Edge.RICH, "copy(8,0,3,0,1) = BAD", "copy(3,0,8,0,1) = BAD", "copy(8,-1,0,0,1) = BAD",
            "copy(0,0,-1,0,-1) = BAD", "copy(-1,0,8,0,0) = BAD");
        edge.beside("copy");
        edge.end();
    }
}
