/**
 * Promise 36, count: How many: 0 ROWS, 1 STOPS, 2 PEOPLE, 3 the MINUTE, 4 BOUND, 5 who is THERE (bits), 6 ACTS that
 * can be undone, 7 bytes on the tape. BAD.
 */
public final class Promise36CountTest {
    private static final Edge edge = new Edge("Promise 36, count");
    private static final int MIN = Integer.MIN_VALUE, MAX = Integer.MAX_VALUE;

    public static void main(String[] args) {
        edge.test("BAD: neither of 0 to 7");
        edge.each(Edge.RICH, "count(#) = BAD", -1, 8, 9, MIN, MAX);
        edge.each(Edge.NEW, "count(#) = BAD", -1, 8);

        edge.test("0 to 7, of a new object");
        edge.each(Edge.NEW, "count(#) = 0", 0, 1, 2, 3, 4, 5, 6, 7);

        edge.test("0 ROWS: 0 to 8");
        edge.answers("row(0,0,0) row(1,0,0) row(2,0,0) row(3,0,0) row(4,0,0) row(5,0,0) row(6,0,0)", "count(0) = 7",
            "row(7,0,0) = 0", "count(0) = 8", "row(7,0,1) = 1", "row(8,0,1) = BAD", "count(0) = 8", "drop(0) = 0",
            "count(0) = 7");

        edge.test("1 STOPS: 2 to 8; 2 PEOPLE: 0 to 6; 4 BOUND: 0 to 40");
        edge.stays(Edge.EMPTY, "count(1) = 2", "count(2) = 0", "count(4) = 0");
        edge.stays("t8,40;p0,0,7;p0,0,7;p0,0,7;p0,0,7;p0,0,7;p0,0,7;", "count(1) = 8", "count(2) = 6", "count(4) = 40");

        edge.test("3 the MINUTE: 0 to 999");
        edge.stays(Edge.EMPTY, "count(3) = 0");
        edge.stays("t2,0; minutes(24)*41 minutes(15)", "count(3) = 999");
        edge.stays("t2,0; minutes(24)*41 minutes(15) minutes(1)", "count(3) = 999");

        edge.test("5 who is THERE, bits: nobody, all");
        edge.stays("t8,40;p0,0,7;p0,0,7;p0,0,7;p0,0,7;p0,0,7;p0,0,7;", "count(5) = 0");
        edge.stays("t8,40;p7,0,7;p7,0,7;p7,0,7;p7,0,7;p7,0,7;p7,0,7;", "count(5) = 63");
        edge.stays("t8,40;p7,0,7;p0,0,7;p7,0,7;p0,0,7;p7,0,7;p0,0,7;", "count(5) = 21");

        edge.test("6 ACTS that can be undone: 0 to 24");
        edge.stays(Edge.EMPTY, "count(6) = 0");
        edge.stays("t2,0; minutes(23)", "count(6) = 23");
        edge.stays("t2,0; minutes(24)", "count(6) = 24");
        edge.stays("t2,0; minutes(24) minutes(1)", "count(6) = 24");
        edge.stays("t2,0; minutes(24) minutes(1) undo()", "count(6) = 23");

        edge.test("7 bytes on the tape: 0 to 100");
        edge.stays("feed(65)*99", "count(7) = 99");
        edge.stays("feed(65)*100", "count(7) = 100");
        edge.stays("feed(65)*101", "count(7) = 100");
        edge.stays("feed(65)*100 line()", "count(7) = 0");
        edge.beside("count");
        edge.end();
    }
}
