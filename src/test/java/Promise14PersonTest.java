/**
 * Promise 14, person: Of one: 0 the STOP, 1 FAITH, 2 the STOP he WANTS, 3 how long he has WAITED, 4 by how much he
 * HOPES. BAD.
 */
public final class Promise14PersonTest {
    private static final Edge edge = new Edge("Promise 14, person");
    private static final int MIN = Integer.MIN_VALUE, MAX = Integer.MAX_VALUE;

    public static void main(String[] args) {
        edge.test("0 to 4 of one");
        edge.stays("t8,40;p7,20,0; minutes(2)", "person(0,0) = 7", "person(0,1) = 20", "person(0,2) = 0",
            "person(0,3) = 2", "person(0,4) = 20");

        edge.test("BAD: no such thing of one");
        edge.each(Edge.RICH, "person(0,#) = BAD", -1, 5, 6, MIN, MAX);

        edge.test("BAD: no such one");
        for (int what = 0; what <= 4; what++) {
            edge.each(Edge.RICH, "person(#," + what + ") = BAD", -1, 5, 6, MIN, MAX);
            edge.each(Edge.CROWDED, "person(#," + what + ") = BAD", -1, 6);
            edge.each(Edge.EMPTY, "person(#," + what + ") = BAD", -1, 0);
            edge.each(Edge.NEW, "person(#," + what + ") = BAD", -1, 0);
        }
        edge.stays(Edge.CROWDED, "person(5,1) = 0");

        edge.test("a plain one HOPES by FAITH, 0 to 20");
        edge.stays("t2,0;p0,0,0;p0,20,0; minutes(24)", "person(0,4) = 0", "person(1,4) = 20");

        edge.test("one of the crowd by that, and 1 more for each other one who is at his STOP");
        edge.stays("t2,0;c0,0,0;p1,9,0;", "person(0,4) = 0");
        edge.stays("t2,0;c0,0,0;p0,9,0;", "person(0,4) = 1");
        edge.stays("t2,0;c0,20,0;c0,20,0;c0,20,0;c0,20,0;c0,20,0;c0,20,0;", "person(0,4) = 25", "person(5,4) = 25");
        edge.stays("t2,0;c0,20,0;c0,20,0;c0,20,0;c0,20,0;c0,20,0;c1,20,0;", "person(0,4) = 24", "person(5,4) = 20");

        edge.test("a doubter by FAITH less as many MINUTES as he has WAITED, 0 at least");
        edge.stays("t2,0;d0,3,0; minutes(2)", "person(0,4) = 1");
        edge.stays("t2,0;d0,3,0; minutes(3)", "person(0,4) = 0");
        edge.stays("t2,0;d0,3,0; minutes(4)", "person(0,4) = 0");
        edge.stays("t2,0;d0,0,0; minutes(24)*5", "person(0,4) = 0", "person(0,3) = 99");
        edge.stays("t2,0;d0,20,0;", "person(0,4) = 20");

        edge.test("a child by 3, whatever his FAITH");
        edge.stays("t2,0;k0,0,0;k0,20,0; minutes(5)", "person(0,4) = 3", "person(1,4) = 3");

        edge.test("a saint by 3, and 10 more if nobody else is at his STOP");
        edge.stays("t2,0;s0,20,0;p1,0,0; minutes(5)", "person(0,4) = 13");
        edge.stays("t2,0;s0,0,0;p0,0,0;", "person(0,4) = 3");
        edge.stays("t2,0;s0,0,0;s0,0,0;s1,0,0;", "person(0,4) = 3", "person(1,4) = 3", "person(2,4) = 13");
        edge.answers("t2,0;s0,0,0;p0,0,0;", "walk(1,1) = 1", "person(0,4) = 13", "walk(0,1) = 1", "person(0,4) = 3");
        edge.beside("person");
        edge.end();
    }
}
