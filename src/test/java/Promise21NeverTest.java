/** Promise 21, never: PEOPLE (bits) who are THERE behind none of 0 to 60 MINUTES. STATE: no LINE. */
public final class Promise21NeverTest {
    private static final Edge edge = new Edge("Promise 21, never");

    public static void main(String[] args) {
        edge.test("who is THERE behind 60 MINUTES is none of them");
        edge.stays(Edge.BEHIND_60, "never() = 0");

        edge.test("who is THERE behind 61 MINUTES is one of them");
        edge.stays(Edge.BEHIND_61, "never() = 16");
        edge.stays(Edge.BEHIND_61 + " minutes(1)", "never() = 0");

        edge.test("who is THERE behind 0 MINUTES is none of them");
        edge.stays("t3,40;p0,5,2;k1,0,1;p2,1,1;", "never() = 5");
        edge.stays("t3,40;p2,5,2;k1,0,1;p1,1,1;", "never() = 0");

        edge.test("bits: nobody, all");
        edge.stays(Edge.EMPTY, "never() = 0");
        edge.stays("t2,40;p0,0,1;c0,0,1;d0,0,1;k1,0,0;s1,0,0;p1,0,0;", "never() = 63");

        edge.test("STATE: no LINE");
        edge.stays(Edge.NEW, "never() = STATE");
        edge.stays("row(0,0,1) !t9,0;", "never() = STATE");
        edge.beside("never");
        edge.end();
    }
}
