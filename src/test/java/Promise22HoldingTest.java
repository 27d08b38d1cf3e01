/** Promise 22, holding: STOPS (bits) whose HOPE is BOUND or more now, and more than 0. STATE: no LINE. */
public final class Promise22HoldingTest {
    private static final Edge edge = new Edge("Promise 22, holding");

    public static void main(String[] args) {
        edge.test("BOUND or more");
        edge.stays("t3,5;p0,4,2;p1,5,2;p2,6,2;", "holding() = 6");
        edge.stays("t3,7;p0,4,2;p1,5,2;p2,6,2;", "holding() = 0");
        edge.stays("t3,40;p2,20,2;p2,20,2;", "holding() = 4");
        edge.stays("t3,40;p2,20,2;p2,19,2;", "holding() = 0");

        edge.test("and more than 0");
        edge.stays("t3,0;p0,0,2;p1,1,2;", "holding() = 2");
        edge.stays("t3,0;p0,0,2;p1,0,2;", "holding() = 0");
        edge.stays(Edge.EMPTY, "holding() = 0");

        edge.test("bits, from the first STOP to the last");
        edge.stays("t8,3;k7,0,7;k0,0,7;", "holding() = 129");
        edge.stays("t6,3;k0,0,0;k1,0,0;k2,0,0;k3,0,0;k4,0,0;k5,0,0;", "holding() = 63");

        edge.test("now");
        edge.answers("t3,2;d0,3,0;", "holding() = 1", "minutes(1) = 1", "holding() = 1", "minutes(1) = 1",
            "holding() = 0");

        edge.test("STATE: no LINE");
        edge.stays(Edge.NEW, "holding() = STATE");
        edge.stays("row(0,0,1) !t9,0;", "holding() = STATE");
        edge.beside("holding");
        edge.end();
    }
}
