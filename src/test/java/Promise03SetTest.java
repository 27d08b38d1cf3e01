/** Promise 3, set: ITEM i becomes v, its lowest bits, as many as the LANE has. BAD: ROW; NULL; PLACE. */
public final class Promise03SetTest {
    private static final Edge edge = new Edge("Promise 3, set");
    private static final int MIN = Integer.MIN_VALUE, MAX = Integer.MAX_VALUE;

    public static void main(String[] args) {
        edge.test("its lowest bits: a byte has 8");
        edge.answers("row(0,0,1)", "set(0,0,127) = 127", "set(0,0,128) = -128", "set(0,0,255) = -1", "set(0,0,256) = 0",
            "set(0,0,-1) = -1", "set(0,0,-128) = -128", "set(0,0,-129) = 127", "set(0,0,-256) = 0", "set(0,0,MAX) = -1",
            "set(0,0,MIN) = 0", "set(0,0,0) = 0");

        edge.test("its lowest bits: a short has 16");
        edge.answers("row(0,1,1)", "set(0,0,32767) = 32767", "set(0,0,32768) = -32768", "set(0,0,65535) = -1",
            "set(0,0,65536) = 0", "set(0,0,-32768) = -32768", "set(0,0,-32769) = 32767", "set(0,0,128) = 128",
            "set(0,0,MAX) = -1", "set(0,0,MIN) = 0");

        edge.test("its lowest bits: an int has all");
        edge.answers("row(0,2,1)", "set(0,0,MAX) = MAX", "set(0,0,MIN) = MIN", "set(0,0,-1) = -1",
            "set(0,0,65536) = 65536", "set(0,0,-32769) = -32769");

        edge.test("what it is then is what the ROW has");
        String atOne = "t2,0;p1,5,1; row(0,0,1) row(1,1,1) row(2,2,1) ";
        edge.answers(atOne + "set(0,0,257) set(1,0,65537) set(2,0,65537)", "bounds(0,0,1) = 63", "bounds(1,0,1) = 63",
            "bounds(2,0,1) = 0", "set(2,0,1) = 1", "bounds(2,0,1) = 63");

        edge.test("ITEM i, and no other");
        edge.answers("t2,0;p1,5,1; row(0,0,3) row(1,0,3)", "set(0,1,1) = 1", "bounds(0,0,1) = 0", "bounds(0,1,1) = 63",
            "bounds(0,2,1) = 0", "bounds(1,1,1) = 0", "drop(0) = 3");

        edge.test("PLACE: no such place of a ROW");
        for (int n : new int[] {1, 3, 40}) {
            for (int lane = 0; lane <= 2; lane++) {
                String row = "row(5," + lane + "," + n + ")";
                edge.answers(row, "set(5,0,1) = 1", "set(5," + (n - 1) + ",1) = 1");
                edge.each(Edge.RICH + " " + row, "set(5,#,2) = PLACE", -1, n, n + 1, MIN, MAX);
            }
        }
        edge.each(Edge.RICH, "set(4,#,2) = PLACE", -1, 0, 1);

        edge.test("NULL: a ROW that is missing, ahead of PLACE");
        edge.stays(Edge.RICH, "set(3,0,1) = NULL", "set(7,0,1) = NULL", "set(3,-1,1) = NULL", "set(3,40,1) = NULL",
            "set(3,MIN,1) = NULL");
        edge.stays(Edge.RICH + " drop(0)", "set(0,0,1) = NULL");

        edge.test("BAD: ROW, ahead of NULL and PLACE");
        edge.each(Edge.RICH, "set(#,0,1) = BAD", -1, 8, MIN, MAX);
        edge.each(Edge.RICH, "set(#,-1,1) = BAD", -1, 8);
        edge.each(Edge.NEW, "set(#,0,1) = BAD", -1, 8);
        edge.beside("set");
        edge.end();
    }
}
