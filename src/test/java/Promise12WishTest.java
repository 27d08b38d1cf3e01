/** Promise 12, wish: One WANTS to be at a STOP: where he WANTED. BAD. */
public final class Promise12WishTest {
    private static final Edge edge = new Edge("Promise 12, wish");
    private static final int MIN = Integer.MIN_VALUE, MAX = Integer.MAX_VALUE;

    public static void main(String[] args) {
        edge.test("a STOP, the first or the last; where he WANTED");
        for (int stops = 2; stops <= 8; stops++) {
            int last = stops - 1;
            String line = "t" + stops + ",0;p0,7,1;p0,7,1; minutes(1)";
            edge.answers(line, "wish(0,0) = 1", "person(0,2) = 0", "wish(0," + last + ") = 0",
                "person(0,2) = " + last, "person(1,2) = 1");
            edge.each(line, "wish(0,#) = BAD", -1, stops, stops + 1, MIN, MAX);
        }
        edge.each(Edge.RICH, "wish(0,#) = BAD", -1, 5, MIN, MAX);

        edge.test("BAD: no such one");
        edge.each(Edge.RICH, "wish(#,0) = BAD", -1, 5, 6, MIN, MAX);
        edge.each(Edge.CROWDED, "wish(#,0) = BAD", -1, 6);
        edge.each(Edge.EMPTY, "wish(#,0) = BAD", -1, 0);
        edge.each(Edge.NEW, "wish(#,0) = BAD", -1, 0);
        edge.answers(Edge.CROWDED, "wish(5,7) = 0", "person(5,2) = 7");

        edge.test("of each KIND; the STOP that he WANTS already: an ACT all the same");
        for (char sort : "pcdks".toCharArray()) {
            edge.answers("t4,0;" + sort + "1,7,2;", "wish(0,2) = 2", "person(0,2) = 2", "count(6) = 1", "wish(0,3) = 2",
                "wish(0,1) = 3", "count(5) = 1", "undo() = 2", "undo() = 1", "undo() = 0", "person(0,2) = 2");
        }

        edge.test("THERE by a wish, and no more by another; he has WAITED as before");
        edge.answers("t3,40;p1,7,2; minutes(4)", "wish(0,1) = 2", "count(5) = 1", "wish(0,0) = 1", "count(5) = 0",
            "person(0,3) = 4", "count(3) = 4");

        edge.test("an ACT; what is refused is none");
        edge.answers("t3,0;p0,3,2;", "wish(0,1) = 2", "count(6) = 1", "wish(0,3) = BAD", "wish(1,0) = BAD",
            "count(6) = 1", "undo() = 0", "person(0,2) = 2");
        edge.beside("wish");
        edge.end();
    }
}
