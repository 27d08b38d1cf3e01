/** Promise 16, where: Where one is, d MINUTES from now (0 to 60). BAD. */
public final class Promise16WhereTest {
    private static final Edge edge = new Edge("Promise 16, where");
    private static final int MIN = Integer.MIN_VALUE, MAX = Integer.MAX_VALUE;

    public static void main(String[] args) {
        edge.test("d: 0 to 60 MINUTES from now");
        edge.stays("t4,5;p0,6,3;d2,5,0;", "where(0,0) = 0", "where(0,1) = 1", "where(0,2) = 2", "where(0,3) = 3",
            "where(0,60) = 3", "where(1,0) = 2", "where(1,2) = 2", "where(1,3) = 1", "where(1,60) = 1");
        edge.stays(Edge.BEHIND_60, "where(1,58) = 5", "where(1,59) = 4", "where(1,60) = 3");
        edge.each(Edge.RICH, "where(0,#) = BAD", -1, 61, 62, MIN, MAX);

        edge.test("BAD: no such one");
        for (int d : new int[] {0, 60}) {
            edge.each(Edge.RICH, "where(#," + d + ") = BAD", -1, 5, 6, MIN, MAX);
            edge.each(Edge.CROWDED, "where(#," + d + ") = BAD", -1, 6);
            edge.each(Edge.EMPTY, "where(#," + d + ") = BAD", -1, 0);
            edge.each(Edge.NEW, "where(#," + d + ") = BAD", -1, 0);
        }
        edge.stays(Edge.CROWDED, "where(5,60) = 0");

        edge.test("from now on: one has WAITED as long as he has");
        edge.stays("t3,4;d0,5,0; minutes(1) wish(0,2)", "where(0,0) = 0", "where(0,1) = 1", "where(0,2) = 2");
        edge.stays("t3,4;d0,5,0; minutes(2) wish(0,2)", "where(0,1) = 0", "where(0,60) = 0");

        edge.test("nobody walking, from now on, beyond MINUTE 999 too");
        edge.stays("t3,40;p0,6,2;", "where(0,60) = 0");
        edge.stays("t8,40;p0,1,7; minutes(24)*41 minutes(15) preach(0,20) wish(0,0)", "where(0,60) = 0");
        edge.answers("t3,5;p0,4,2; minutes(24)*41 minutes(15)", "preach(0,5) = 4", "where(0,1) = 1", "where(0,2) = 2",
            "where(0,60) = 2", "count(3) = 999");
        edge.beside("where");
        edge.end();
    }
}
