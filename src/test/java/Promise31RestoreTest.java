/** Promise 31, restore: The LINE is as an IMAGE kept it (no ACT can be undone then): 1. BAD; STATE: none was kept. */
public final class Promise31RestoreTest {
    private static final Edge edge = new Edge("Promise 31, restore");
    private static final int MIN = Integer.MIN_VALUE, MAX = Integer.MAX_VALUE;

    public static void main(String[] args) {
        edge.test("BAD: no such IMAGE");
        edge.each(Edge.RICH, "restore(#) = BAD", -1, 2, 3, MIN, MAX);

        edge.test("STATE: none was kept");
        edge.each(Edge.NEW, "restore(#) = STATE", 0, 1);
        edge.each("t2,0;p0,1,1; minutes(3) image(2)", "restore(#) = STATE", 0, 1);
        edge.stays("t2,0;p0,1,1; image(0) minutes(1)", "restore(1) = STATE");
        edge.stays("t2,0;p0,1,1; image(1) minutes(1)", "restore(0) = STATE");
        edge.each("image(0) image(1) t2,0;p0,1,1;", "restore(#) = STATE", 0, 1);

        edge.test("BAD is ahead of STATE");
        edge.each(Edge.NEW, "restore(#) = BAD", -1, 2, MIN, MAX);

        edge.test("as the IMAGE kept it: STOPS, BOUND, the MINUTE, KINDS, all of each one");
        edge.answers("t4,5;p0,6,3;d2,5,0; minutes(2) image(1) minutes(1) preach(0,1) wish(1,3) t2,0;k1,1,1;s0,2,0;k0,0,0;",
            "restore(1) = 1", "count(1) = 4", "count(2) = 2", "count(3) = 2", "count(4) = 5", "kind(0) = 1",
            "kind(1) = 3", "person(0,0) = 2", "person(0,1) = 6", "person(0,2) = 3", "person(0,3) = 0",
            "person(1,0) = 2", "person(1,1) = 5", "person(1,2) = 0", "person(1,3) = 2", "person(1,4) = 3",
            "person(2,0) = BAD", "when(0) = 1");

        edge.test("no ACT can be undone then");
        edge.answers("t2,40;p0,1,1; image(0) minutes(24)", "count(6) = 24", "restore(0) = 1", "count(6) = 0",
            "undo() = STATE", "count(3) = 0", "minutes(1) = 0", "count(6) = 1", "undo() = 0", "undo() = STATE");

        edge.test("the IMAGE stays, whatever the LINE becomes");
        edge.answers("t3,0;p0,5,2; image(0)", "minutes(2) = 1", "restore(0) = 1", "person(0,0) = 0", "walk(0,1) = 1",
            "preach(0,9) = 5", "wish(0,0) = 2", "restore(0) = 1", "person(0,0) = 0", "person(0,1) = 5",
            "person(0,2) = 2");

        edge.test("ROWS, the tape, the FAULT, THE TRACE, status() stay");
        edge.answers(Edge.RICH, "restore(1) = 1", "count(0) = 4", "count(7) = 12", "fault() = 2", "trace(0) = 12",
            "status() = 2", "count(3) = 1", "restore(0) = 1", "count(3) = 2", "line() = 1", "restore(0) = 1",
            "count(1) = 5");
        edge.beside("restore");
        edge.end();
    }
}
