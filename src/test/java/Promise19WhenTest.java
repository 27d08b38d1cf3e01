/** Promise 19, when: WHEN one is THERE first: behind how many MINUTES (0: now; to 60); NONE. BAD. */
public final class Promise19WhenTest {
    private static final Edge edge = new Edge("Promise 19, when");
    private static final int MIN = Integer.MIN_VALUE, MAX = Integer.MAX_VALUE;

    public static void main(String[] args) {
        edge.test("0: now");
        edge.stays("t4,40;p2,0,2;p1,0,2;", "when(0) = 0", "when(1) = NONE");

        edge.test("behind how many MINUTES, from now on");
        edge.stays("t4,5;p0,6,3;d2,5,0;", "when(0) = 3", "when(1) = NONE");
        edge.stays("t4,5;p0,6,3;d2,5,0; minutes(2)", "when(0) = 1");
        edge.stays("t4,5;p0,6,3;d2,5,0; minutes(3)", "when(0) = 0");

        edge.test("to 60; NONE");
        edge.stays(Edge.BEHIND_60, "when(1) = 60");
        edge.stays(Edge.BEHIND_60 + " minutes(1)", "when(1) = 59");
        edge.stays(Edge.BEHIND_61, "when(4) = NONE");
        edge.stays(Edge.BEHIND_61 + " minutes(1)", "when(4) = 60");
        edge.stays("t3,40;p0,6,2;", "when(0) = NONE");
        edge.stays("t3,0;p0,0,2;", "when(0) = NONE");

        edge.test("BAD: no such one");
        edge.each(Edge.RICH, "when(#) = BAD", -1, 5, 6, MIN, MAX);
        edge.each(Edge.CROWDED, "when(#) = BAD", -1, 6);
        edge.each(Edge.EMPTY, "when(#) = BAD", -1, 0);
        edge.each(Edge.NEW, "when(#) = BAD", -1, 0);
        edge.stays(Edge.CROWDED, "when(5) = 0");
        edge.beside("when");
        edge.end();
    }
}
