/** Promise 11, preach: FAITH is v (0 to 20): what it was. BAD. */
public final class Promise11PreachTest {
    private static final Edge edge = new Edge("Promise 11, preach");
    private static final int MIN = Integer.MIN_VALUE, MAX = Integer.MAX_VALUE;

    public static void main(String[] args) {
        edge.test("v: 0 to 20; what it was");
        edge.answers("t2,0;p0,7,1;p0,8,1;", "preach(0,0) = 7", "person(0,1) = 0", "preach(0,20) = 0",
            "person(0,1) = 20", "preach(0,1) = 20", "person(1,1) = 8");
        edge.each(Edge.RICH, "preach(0,#) = BAD", -1, 21, 22, MIN, MAX);
        edge.each(Edge.CROWDED, "preach(5,#) = BAD", -1, 21);

        edge.test("BAD: no such one");
        edge.each(Edge.RICH, "preach(#,5) = BAD", -1, 5, 6, MIN, MAX);
        edge.each(Edge.CROWDED, "preach(#,5) = BAD", -1, 6);
        edge.each(Edge.EMPTY, "preach(#,5) = BAD", -1, 0);
        edge.each(Edge.NEW, "preach(#,5) = BAD", -1, 0);
        edge.stays(Edge.NEW, "preach(0,21) = BAD");
        edge.answers(Edge.CROWDED, "preach(5,20) = 0", "person(5,1) = 20");

        edge.test("FAITH of each KIND, those that do not HOPE by it, too");
        for (char sort : "pcdks".toCharArray()) {
            edge.answers("t2,0;p0,3,1;" + sort + "1,7,1;", "preach(1,20) = 7", "person(1,1) = 20", "preach(1,0) = 20",
                "person(1,1) = 0", "person(0,1) = 3");
        }

        edge.test("the FAITH that he has already: an ACT all the same");
        edge.answers("t2,0;p0,7,1;", "preach(0,7) = 7", "person(0,1) = 7", "count(6) = 1", "preach(0,8) = 7",
            "undo() = 1", "undo() = 0", "person(0,1) = 7");

        edge.test("he has WAITED as before, and it is no MINUTE");
        edge.answers("t3,40;d0,9,2; minutes(5)", "preach(0,20) = 9", "person(0,3) = 5", "person(0,4) = 15",
            "count(3) = 5", "preach(0,5) = 20", "person(0,4) = 0", "preach(0,6) = 5", "person(0,4) = 1");

        edge.test("an ACT; what is refused is none");
        edge.answers("t3,0;p0,3,2;", "preach(0,4) = 3", "count(6) = 1", "preach(0,21) = BAD", "preach(1,4) = BAD",
            "count(6) = 1", "undo() = 0", "person(0,1) = 3");
        edge.beside("preach");
        edge.end();
    }
}
