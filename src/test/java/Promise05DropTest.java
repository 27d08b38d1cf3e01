/** Promise 5, drop: A ROW is missing from now on: how many ITEMS it had. BAD; NULL. */
public final class Promise05DropTest {
    private static final Edge edge = new Edge("Promise 5, drop");
    private static final int MIN = Integer.MIN_VALUE, MAX = Integer.MAX_VALUE;

    public static void main(String[] args) {
        edge.test("how many ITEMS it had: 0 to 40");
        edge.answers("row(0,0,0) row(3,1,1) row(7,2,40)", "drop(0) = 0", "drop(3) = 1", "count(0) = 1", "drop(7) = 40",
            "count(0) = 0");

        edge.test("missing from now on");
        edge.answers("t2,0;p0,1,0; row(0,0,3) row(1,0,2) drop(0)", "count(0) = 1", "set(0,0,1) = NULL",
            "copy(0,0,1,0,1) = NULL", "copy(1,0,0,0,1) = NULL", "bounds(0,0,1) = NULL", "fits(0,0,0,1,0) = NULL",
            "drop(0) = NULL", "set(1,1,9) = 9");

        edge.test("NULL: a ROW that is missing");
        edge.each(Edge.RICH, "drop(#) = NULL", 3, 5, 6, 7);
        edge.stays(Edge.RICH + " drop(4)", "drop(4) = NULL");

        edge.test("BAD: no such ROW");
        edge.each(Edge.RICH, "drop(#) = BAD", -1, 8, MIN, MAX);
        edge.each(Edge.NEW, "drop(#) = BAD", -1, 8);
        edge.beside("drop");
        edge.end();
    }
}
