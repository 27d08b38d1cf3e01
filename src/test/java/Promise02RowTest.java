/** Promise 2, row: A ROW of a LANE with n ITEMS, in place of what is there: n. BAD: ROW, LANE, n above 40; SIZE. */
public final class Promise02RowTest {
    private static final Edge edge = new Edge("Promise 2, row");
    private static final int MIN = Integer.MIN_VALUE, MAX = Integer.MAX_VALUE;

    public static void main(String[] args) {
        edge.test("ROWS 0 .. 7");
        edge.answers(Edge.NEW, "row(0,0,1) = 1", "row(7,0,1) = 1", "count(0) = 2", "set(0,0,5) = 5", "set(7,0,5) = 5");
        edge.each(Edge.RICH, "row(#,0,1) = BAD", -1, 8, MIN, MAX);
        edge.each(Edge.NEW, "row(#,0,1) = BAD", -1, 8, MIN, MAX);

        edge.test("a LANE: 0 bytes, 1 shorts, 2 ints");
        edge.answers(Edge.NEW, "row(0,0,1) = 1", "set(0,0,70001) = 113", "row(0,1,1) = 1", "set(0,0,70001) = 4465",
            "row(0,2,1) = 1", "set(0,0,70001) = 70001");
        edge.each(Edge.RICH, "row(0,#,1) = BAD", -1, 3, MIN, MAX);
        edge.each(Edge.RICH, "row(3,#,1) = BAD", -1, 3, MIN, MAX);

        edge.test("0 to 40 ITEMS; BAD: n above 40");
        for (int lane = 0; lane <= 2; lane++) {
            edge.answers(Edge.NEW, "row(3," + lane + ",40) = 40", "set(3,39,7) = 7", "set(3,40,7) = PLACE",
                "drop(3) = 40");
            edge.answers(Edge.NEW, "row(3," + lane + ",1) = 1", "set(3,0,7) = 7", "set(3,1,7) = PLACE", "drop(3) = 1");
            edge.answers(Edge.NEW, "row(3," + lane + ",0) = 0", "count(0) = 1", "set(3,0,7) = PLACE", "drop(3) = 0");
            edge.each(Edge.RICH, "row(2," + lane + ",#) = BAD", 41, 42, MAX);
            edge.each(Edge.RICH, "row(3," + lane + ",#) = BAD", 41, MAX);
        }

        edge.test("SIZE: fewer than none");
        for (int lane = 0; lane <= 2; lane++) {
            edge.each(Edge.RICH, "row(0," + lane + ",#) = SIZE", -1, -2, -41, MIN);
            edge.each(Edge.NEW, "row(7," + lane + ",#) = SIZE", -1, MIN);
        }

        edge.test("BAD is ahead of SIZE");
        edge.stays(Edge.RICH, "row(8,0,-1) = BAD", "row(-1,0,-1) = BAD", "row(0,3,-1) = BAD", "row(0,-1,MIN) = BAD");

        edge.test("ITEMS are 0 at first");
        edge.answers("t2,0;p0,5,0; row(0,0,40) row(1,1,40) row(2,2,40)", "bounds(0,0,16) = 63", "bounds(0,24,16) = 63",
            "bounds(1,0,16) = 63", "bounds(1,24,16) = 63", "bounds(2,0,16) = 63", "bounds(2,24,16) = 63",
            "bounds(2,25,16) = PLACE");

        edge.test("in place of what is there: ITEMS are 0 anew, LANE and n are others, it is one ROW yet");
        edge.answers("t2,0;p1,5,1; row(0,2,2) set(0,0,1) set(0,1,1)", "bounds(0,0,2) = 63", "row(0,2,2) = 2",
            "bounds(0,0,1) = 0", "bounds(0,1,1) = 0", "count(0) = 1");
        edge.answers("row(0,2,2) row(1,2,2)", "row(0,0,1) = 1", "count(0) = 2", "set(0,0,300) = 44",
            "set(0,1,0) = PLACE", "set(1,1,300) = 300", "row(0,1,0) = 0", "set(0,0,0) = PLACE", "count(0) = 2");
        edge.answers("row(0,2,2) set(0,1,1) row(0,2,1) row(0,2,2) t2,0;p1,5,1;", "bounds(0,1,1) = 0");

        edge.test("a ROW that was dropped is there again");
        edge.answers("row(6,1,4) drop(6)", "count(0) = 0", "row(6,0,2) = 2", "count(0) = 1", "drop(6) = 2");
        edge.beside("row");
        edge.end();
    }
}
