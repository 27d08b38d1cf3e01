/** Promise 10, walk: One walks (up 1: to the STOP above; 0: below): where he is. BAD; STATE: there is no such STOP. */
public final class Promise10WalkTest {
    private static final Edge edge = new Edge("Promise 10, walk");
    private static final int MIN = Integer.MIN_VALUE, MAX = Integer.MAX_VALUE;

    public static void main(String[] args) {
        edge.test("up 1: to the STOP above; 0: below; where he is");
        edge.answers("t3,0;p1,0,2;p1,0,0;", "walk(0,1) = 2", "walk(1,0) = 0", "count(5) = 3", "person(0,0) = 2",
            "person(1,0) = 0", "walk(0,0) = 1", "count(5) = 2");

        edge.test("STATE: there is no such STOP, below 0 or above the last");
        for (int stops = 2; stops <= 8; stops++) {
            int last = stops - 1;
            String line = "t" + stops + ",0;p0,5," + last + ";d" + last + ",5,0;p" + (last - 1) + ",0,0; preach(0,4)";
            edge.stays(line, "walk(0,0) = STATE", "walk(1,1) = STATE");
            edge.answers(line, "walk(2,1) = " + last, "walk(2,1) = STATE", "walk(0,1) = 1", "walk(0,0) = 0",
                "walk(0,0) = STATE", "walk(1,0) = " + (last - 1));
        }

        edge.test("BAD: up is neither 1 nor 0, ahead of STATE");
        edge.each(Edge.RICH, "walk(0,#) = BAD", -1, 2, 3, MIN, MAX);
        edge.each("t2,0;p0,0,0;p1,1,1;", "walk(0,#) = BAD", -1, 2);
        edge.each("t2,0;p0,0,0;p1,1,1;", "walk(1,#) = BAD", -1, 2);

        edge.test("BAD: no such one, ahead of STATE");
        for (int up = 0; up <= 1; up++) {
            edge.each(Edge.RICH, "walk(#," + up + ") = BAD", -1, 5, 6, MIN, MAX);
            edge.each(Edge.CROWDED, "walk(#," + up + ") = BAD", -1, 6, 7);
            edge.each(Edge.EMPTY, "walk(#," + up + ") = BAD", -1, 0, 1);
            edge.each(Edge.NEW, "walk(#," + up + ") = BAD", -1, 0);
        }
        edge.answers(Edge.CROWDED, "walk(5,1) = 1");

        edge.test("he has WAITED 0 MINUTES, were they 99; others wait on, and it is no MINUTE");
        edge.answers("t3,40;d0,9,2;d0,9,2; minutes(24)*5", "person(0,3) = 99", "walk(0,1) = 1", "person(0,3) = 0",
            "person(1,3) = 99", "count(3) = 120", "person(0,4) = 9", "person(1,4) = 0");

        edge.test("others have WAITED as before, where he comes from and where he comes to");
        edge.answers("t3,40;d0,9,2;d0,9,2;d1,9,2;d2,9,2; minutes(5)", "walk(0,1) = 1", "person(0,3) = 0",
            "person(1,3) = 5", "person(2,3) = 5", "person(3,3) = 5", "person(2,4) = 4");

        edge.test("each KIND walks");
        for (char sort : "pcdks".toCharArray()) {
            edge.answers("t3,40;" + sort + "1,9,2; minutes(2)", "walk(0,1) = 2", "person(0,3) = 0", "walk(0,0) = 1",
                "walk(0,0) = 0");
        }

        edge.test("an ACT, each; what is refused is none");
        edge.answers("t3,0;p0,0,2;", "walk(0,1) = 1", "count(6) = 1", "walk(0,1) = 2", "count(6) = 2",
            "walk(0,1) = STATE", "walk(0,2) = BAD", "walk(1,0) = BAD", "count(6) = 2", "undo() = 1", "person(0,0) = 1");
        edge.beside("walk");
        edge.end();
    }
}
