/** Promise 20, all: ALL: behind how many MINUTES (0 to 60) all are THERE at once first; NONE. STATE: no LINE. */
public final class Promise20AllTest {
    private static final Edge edge = new Edge("Promise 20, all");

    public static void main(String[] args) {
        edge.test("0: now");
        edge.stays("t2,0;p1,5,1;k0,0,0;", "all() = 0");
        edge.stays("t2,0;p1,5,1;k0,0,1;", "all() = NONE");

        edge.test("nobody: all are THERE");
        edge.stays(Edge.EMPTY, "all() = 0");

        edge.test("all at once first");
        edge.stays("t3,0;p0,5,2;k1,0,0;", "all() = 2");
        edge.stays("t3,0;p0,5,2;k1,0,0; minutes(1)", "all() = 1");
        edge.stays("t3,0;p0,5,2;k1,0,0; minutes(2)", "all() = 0");

        edge.test("by the highest BOUND");
        edge.stays("t2,40;p1,0,1;", "all() = 0");
        edge.stays("t2,40;p0,20,1;p0,20,1;", "all() = 1");
        edge.stays("t2,40;p0,20,1;p0,19,1;", "all() = NONE");

        edge.test("to 60; NONE");
        edge.stays(Edge.BEHIND_60, "all() = 60");
        edge.stays(Edge.BEHIND_61, "all() = NONE");
        edge.stays(Edge.BEHIND_61 + " minutes(1)", "all() = 60");
        edge.stays("t4,5;p0,6,3;d2,5,0;", "all() = NONE");

        edge.test("STATE: no LINE");
        edge.stays(Edge.NEW, "all() = STATE");
        edge.stays("row(0,0,1) !t9,0;", "all() = STATE");
        edge.beside("all");
        edge.end();
    }
}
