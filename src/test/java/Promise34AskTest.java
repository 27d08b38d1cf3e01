/** Promise 34, ask: An ASK (0, 1) of a WAITER. BAD. THE TRACE is empty ahead of it. */
public final class Promise34AskTest {
    private static final Edge edge = new Edge("Promise 34, ask");
    private static final int MIN = Integer.MIN_VALUE, MAX = Integer.MAX_VALUE;
    private static final String ALL_KINDS = "t4,40;p0,6,0;c0,5,0;d0,4,0;k0,3,0;s0,2,0;s1,20,1; minutes(2)";

    public static void main(String[] args) {
        edge.test("0 SIZE, 1 MARK, of each KIND");
        edge.answers(ALL_KINDS, "ask(0,0) = 8", "ask(0,1) = 2", "ask(1,0) = -11", "ask(1,1) = 6", "ask(2,0) = -992",
            "ask(2,1) = -996", "ask(3,0) = -97", "ask(3,1) = 100", "ask(4,0) = -196", "ask(4,1) = 200",
            "ask(5,0) = -160", "ask(5,1) = 165");

        edge.test("FAITH 0 and 20, WAITED 0 and 99");
        edge.answers("t2,0;c0,0,0;d0,20,0;", "ask(0,0) = 0", "ask(0,1) = 0", "ask(1,0) = -979", "ask(1,1) = -999",
            "minutes(24) = 3", "minutes(24) = 3", "minutes(24) = 3", "minutes(24) = 3", "minutes(24) = 3",
            "ask(0,0) = -198", "ask(0,1) = 198", "ask(1,0) = -880", "ask(1,1) = -900");

        edge.test("of CHILDREN and SAINTS by FAITH, though they do not HOPE by it, and not by how long they have WAITED");
        edge.answers("t2,0;k0,7,0;s1,20,1;k0,0,0; minutes(24)*5", "person(0,3) = 99", "ask(0,0) = -93", "ask(0,1) = 93",
            "ask(1,0) = -160", "ask(1,1) = 161", "ask(2,0) = -100", "ask(2,1) = 102");

        edge.test("BAD: neither 0 nor 1; THE TRACE stays");
        edge.each(Edge.RICH, "ask(0,#) = BAD", -1, 2, 3, MIN, MAX);

        edge.test("BAD: no such one; THE TRACE stays");
        for (int what = 0; what <= 1; what++) {
            edge.each(Edge.RICH, "ask(#," + what + ") = BAD", -1, 5, 6, MIN, MAX);
            edge.each(ALL_KINDS + " ask(1,0)", "ask(#," + what + ") = BAD", -1, 6);
            edge.each(Edge.EMPTY, "ask(#," + what + ") = BAD", -1, 0);
            edge.each(Edge.NEW, "ask(#," + what + ") = BAD", -1, 0);
        }

        edge.test("THE TRACE is empty ahead of it");
        edge.answers(ALL_KINDS, "ask(1,0) = -11", "trace(5) = 20", "ask(3,0) = -97", "trace(0) = 13", "trace(1) = 10",
            "trace(2) = NONE", "trace(5) = NONE", "ask(0,1) = 2", "trace(0) = 21", "trace(1) = 20", "trace(2) = NONE");

        edge.test("nothing but THE TRACE changes");
        edge.stays(ALL_KINDS + " ask(1,0)", "ask(1,0) = -11");
        edge.stays(ALL_KINDS + " row(0,0,-1) ask(4,1)", "ask(4,1) = 200");
        edge.beside("ask");
        edge.end();
    }
}
